/-! WHAT THE PICTURE SAYS OF THE HEAP -/
/-- the classes' numbers and slots, the array classes, the first address of what is made since, the addresses of what was there -/
abbrev AG : Type := va_G × (Nat → ClassId) × Nat × (Nat → Nat)
def plG (G : AG) (p : Nat) : Nat := if p < 32 then G.2.2.2 p else G.2.2.1 + (p - 32)
def cv (G : AG) (v : Value) : Value := match v with
  | .ref p => .ref (plG G p)
  | v => v
def rfo (G : AG) (v : Value) : Option Nat := match v with
  | .ref p => some (plG G p)
  | _ => none
def ce (G : AG) (c : AC) : va_E := match c with
  | .inl (k, l) => .inl (G.2.1 k, l.length, .inl (fun i => l.getD i 0))
  | .inr (c, fs) => if c = 50 then .inl (G.2.1 2, fs.length, .inr (.inr (.inr (.inr (fun i => rfo G (fs.getD i .null)))))) else .inr (c, fs.map (cv G))
def wsO (G : AG) (h : AH) : va_W := h.mapIdx (fun i c => (G.2.2.1 + i, ce G c))
theorem plG_hi (G : AG) {p : Nat} (h : 32 ≤ p) : plG G p = G.2.2.1 + (p - 32) := by
  unfold plG
  rw [if_neg (by omega)]
theorem plG_new (G : AG) (h : AH) : plG G (32 + h.length) = G.2.2.1 + h.length := by
  rw [plG_hi G (by omega)]
  congr 1
  omega
theorem cv_cat (G : AG) (v : Value) : (cv G v).category = v.category := by cases v <;> rfl
theorem cat_map (G : AG) (st : List Value) : ((st.map (cv G)).map fun v => v.category).sum = catS st := by
  unfold catS
  rw [List.map_map]
  congr 1
  exact List.map_congr_left (fun v _ => cv_cat G v)
theorem wsO_at (G : AG) (h : AH) (i : Nat) : (wsO G h)[i]? = h[i]?.map (fun c => (G.2.2.1 + i, ce G c)) := by simp [wsO]
theorem wsO_some {G : AG} {h : AH} {i : Nat} {c : AC} (q : h[i]? = some c) : (wsO G h)[i]? = some (G.2.2.1 + i, ce G c) := by rw [wsO_at, q]; rfl
theorem wsO_set {G : AG} {h : AH} {i : Nat} {c : AC} : (wsO G h).set i (G.2.2.1 + i, ce G c) = wsO G (h.set i c) := by
  apply List.ext_getElem?
  intro j
  rw [List.getElem?_set, wsO_at, wsO_at, List.getElem?_set]
  by_cases hj : i = j
  · subst hj
    simp [wsO]
  · simp [hj]
theorem wsO_push {G : AG} {h : AH} {c : AC} : wsO G h ++ [(G.2.2.1 + h.length, ce G c)] = wsO G (h ++ [c]) := by
  simp [wsO, List.mapIdx_append]
def AbA (G : AG) : Nat → Prop := fun q => G.2.2.1 ≤ q
theorem wsO_D (G : AG) (h : AH) : va_D (AbA G) (wsO G h) := by
  refine ⟨fun i j p q hp hq e => ?_, fun k q hq => ?_⟩
  · rw [wsO_at] at hp hq
    obtain ⟨c1, -, rfl⟩ := Option.map_eq_some_iff.mp hp
    obtain ⟨c2, -, rfl⟩ := Option.map_eq_some_iff.mp hq
    dsimp only at e
    omega
  · rw [wsO_at] at hq
    obtain ⟨c1, -, rfl⟩ := Option.map_eq_some_iff.mp hq
    exact Nat.le_add_right _ _
def tysO (G : AG) : List (ClassId × FieldType) := [(G.2.1 0, .int), (G.2.1 1, .boolean), (G.2.1 2, .object "LooksServed$Sheet")]
/-- the picture holds of a heap -/
def WdO (G : AG) (h : AH) (H : Heap) : Prop := H.size = G.2.2.1 + h.length ∧ va_P G.1 vwCl (wsO G h) H
/-- what was there before: script, statics, texts -/
def RO (G : AG) (xs : List Int32) (U : State) : Prop :=
  (∀ p k l, (roL xs)[p]? = some (.inl (k, l)) → va_T (if k = 3 then .byte else .int) (G.2.2.2 p) l.length (fun i => .int (l.getD i 0)) (AbA G) U U.heap) ∧
  (∀ p fs, (roL xs)[p]? = some (.inr (60, fs)) → va_O "java/lang/String" (G.2.2.2 p) (AbA G) U U.heap ∧ ∀ b, b < 2 → va_OF "java/lang/String" (sfN b) (sfD b) (cv G (fs.getD b .null)) (G.2.2.2 p) (AbA G) U U.heap) ∧
  (∀ k, k = 1 ∨ k = 2 ∨ k = 99 → va_Z (gsC k) (gsN k) (gsD k) (cv G (if k = 99 then .int 1 else .ref k)) (AbA G) U U.heap) ∧
  (∀ q ∈ SRl, ∃ tx, vk_R (clsN q.1) q.2.1 tx (plG G q.2.2) U) ∧
  (∀ q ∈ NLl, va_Nw (.methodLinkNest (clsN q.1) q.2.1 (mNm q.2.2.1) "LooksServed") U) ∧
  va_AO "LooksServed$Sheet" U ∧
  va_Nw (.castable "[I" "java/lang/Cloneable") U
def Am (G : AG) (xs : List Int32) (U : State) : Prop := va_K G.1 vwCl (tysO G) U ∧ RO G xs U
theorem Am.warm {G : AG} {xs : List Int32} {s U : State} (h : Am G xs s) (hW : s.WarmedH U.vm) (hk : ∀ a : Nat, a < s.heap.size → ¬ AbA G a → U.heap[a]? = s.heap[a]?) : Am G xs U := by
  obtain ⟨hK, h1, h2, h3, h4, h5, h6, h7⟩ := h
  refine ⟨va_K.moved hW.alike hK, fun p k l q => ((h1 p k l q).kept hk).moved hW.alike, fun p fs q => ⟨((h2 p fs q).1.kept hk).moved hW.alike, fun b hb => (((h2 p fs q).2 b hb).kept hk).moved hW.alike⟩, fun k q => ((h3 k q).kept hk).moved hW.alike, fun q hq => ?_, fun q hq => (h5 q hq).warmM hW, h6.moved hW.alike, h7.warmC hW⟩
  obtain ⟨tx, h⟩ := h4 q hq
  exact ⟨tx, h.warm hW⟩
theorem Am.same {G : AG} {xs : List Int32} {s U : State} (h : Am G xs s) (hv : U.vm = s.vm) (hh : U.heap = s.heap) : Am G xs U := by
  obtain ⟨hK, h1, h2, h3, h4, h5, h6, h7⟩ := h
  have ha : s.vm.Alike U.vm := by rw [hv]; exact Vm.Alike.refl _
  refine ⟨va_K.moved ha hK, fun p k l q => by rw [hh]; exact (h1 p k l q).moved ha, fun p fs q => ⟨by rw [hh]; exact (h2 p fs q).1.moved ha, fun b hb => by rw [hh]; exact ((h2 p fs q).2 b hb).moved ha⟩, fun k q => by rw [hh]; exact (h3 k q).moved ha, fun q hq => ?_, fun q hq => (h5 q hq).same rfl hv.symm, h6.moved ha, h7.same rfl hv.symm⟩
  obtain ⟨tx, h⟩ := h4 q hq
  exact ⟨tx, h.same hv⟩
-- the locals
def lvO (G : AG) (ls : Array Slot) (n : Nat) (L : LoS) : Prop := L.length = n ∧ ls.size = n ∧ lv_wf ls ∧ ∀ i v, L.getD i none = some v → ls[i]? = some (.val (cv G v))
def prO (G : AG) (L : LoS) : List (Nat × Value) := (List.range L.length).filterMap (fun i => (L.getD i none).map (fun v => (i, cv G v)))
theorem prO_mem {G : AG} {L : LoS} {i : Nat} {v : Value} (h : L.getD i none = some v) : (i, cv G v) ∈ prO G L := by
  unfold prO
  refine List.mem_filterMap.mpr ⟨i, List.mem_range.mpr ?_, by rw [h]; rfl⟩
  refine Nat.lt_of_not_le (fun q => ?_)
  rw [List.getD_eq_getElem?_getD, List.getElem?_eq_none q] at h
  cases h
theorem lvO_has {G : AG} {ls : Array Slot} {n : Nat} {L : LoS} (h : lvO G ls n L) : lv_has ls n (prO G L) := by
  refine ⟨h.2.1, h.2.2.1, fun q hq => ?_⟩
  obtain ⟨i, -, hi⟩ := List.mem_filterMap.mp hq
  obtain ⟨v, h1, rfl⟩ := Option.map_eq_some_iff.mp hi
  exact h.2.2.2 i v h1
theorem lvO_set {G : AG} {ls ls' : Array Slot} {n : Nat} {L : LoS} {i : Nat} {v : Value} (h : lvO G ls n L) (hk : okS L i = true) (h' : lv_has ls' n ((i, cv G v) :: (prO G L).filter (fun q => !(q.1 == i) && !(q.1 + 1 == i && q.2.category == 2)))) : lvO G ls' n (L.set i (some v)) := by
  unfold okS at hk
  rw [Bool.and_eq_true, decide_eq_true_eq] at hk
  refine ⟨by rw [List.length_set]; exact h.1, h'.1, h'.2.1, fun j w hj => ?_⟩
  by_cases hij : i = j
  · subst hij
    rw [List.getD_eq_getElem?_getD, List.getElem?_set_self hk.1] at hj
    cases hj
    exact h'.2.2 (i, cv G v) List.mem_cons_self
  · rw [List.getD_eq_getElem?_getD, List.getElem?_set_ne hij, ← List.getD_eq_getElem?_getD] at hj
    refine h'.2.2 (j, cv G w) (List.mem_cons_of_mem _ (List.mem_filter.mpr ⟨prO_mem hj, ?_⟩))
    have h1 : (j == i) = false := beq_false_of_ne (fun q => hij q.symm)
    rw [Bool.and_eq_true]
    refine ⟨by simp [h1], ?_⟩
    by_cases h2 : j + 1 = i
    · subst h2
      have h3 := hk.2
      dsimp only at h3
      rw [hj] at h3
      have h4 : (cv G w).category ≠ 2 := by
        rw [cv_cat]
        intro h5
        cases w <;> simp [isW, Value.category] at h3 h5
      simp [h4]
    · simp [h2]
theorem lvO_lt {L : LoS} {i : Nat} (hk : okS L i = true) : i < L.length := by
  unfold okS at hk
  rw [Bool.and_eq_true, decide_eq_true_eq] at hk
  exact hk.1
theorem slV_len (G : AG) (vs : List Value) : (lg_sl (vs.map (cv G))).length = (slV vs).length := by
  induction vs with
  | nil => rfl
  | cons v vs ih =>
    have e1 : lg_sl ((v :: vs).map (cv G)) = (if (cv G v).category = 2 then [Slot.val (cv G v), .second] else [.val (cv G v)]) ++ lg_sl (vs.map (cv G)) := rfl
    have e2 : slV (v :: vs) = (if v.category = 2 then [some v, none] else [some v]) ++ slV vs := rfl
    rw [e1, e2, List.length_append, List.length_append, ih, cv_cat]
    split <;> rfl
theorem slV_args (G : AG) (vs : List Value) : ∀ (k i : Nat) (v : Value), (slV vs).getD i none = some v → (k + i, cv G v) ∈ lv_args k (vs.map (cv G)) := by
  induction vs with
  | nil => intro k i v h; simp [slV] at h
  | cons w vs ih =>
    intro k i v h
    have e1 : lv_args k ((w :: vs).map (cv G)) = (k, cv G w) :: lv_args (if (cv G w).category = 2 then k + 2 else k + 1) (vs.map (cv G)) := rfl
    have e2 : slV (w :: vs) = (if w.category = 2 then [some w, none] else [some w]) ++ slV vs := rfl
    rw [e1, cv_cat]
    rw [e2] at h
    by_cases hc : w.category = 2
    · rw [if_pos hc] at h ⊢
      match i, h with
      | 0, h =>
        have : w = v := by simpa using h
        subst this
        exact List.mem_cons_self
      | 1, h => simp at h
      | i + 2, h =>
        have h2 : (slV vs).getD i none = some v := by simpa using h
        have h3 := ih (k + 2) i v h2
        rw [show k + 2 + i = k + (i + 2) by omega] at h3
        exact List.mem_cons_of_mem _ h3
    · rw [if_neg hc] at h ⊢
      match i, h with
      | 0, h =>
        have : w = v := by simpa using h
        subst this
        exact List.mem_cons_self
      | i + 1, h =>
        have h2 : (slV vs).getD i none = some v := by simpa using h
        have h3 := ih (k + 1) i v h2
        rw [show k + 1 + i = k + (i + 1) by omega] at h3
        exact List.mem_cons_of_mem _ h3
theorem lvO_entry (G : AG) {vs : List Value} {n : Nat} (h : (slV vs).length ≤ n) : lvO G ((lg_sl (vs.map (cv G)) ++ List.replicate (n - (lg_sl (vs.map (cv G))).length) Slot.unset).toArray) n (entL n vs) := by
  have h1 := lv_entry (vs.map (cv G)) (n := n) (by rw [slV_len]; exact h)
  refine ⟨?_, h1.1, h1.2.1, fun i v hi => ?_⟩
  · unfold entL
    rw [List.length_append, List.length_replicate]
    omega
  · have h2 : (slV vs).getD i none = some v := by
      unfold entL at hi
      rw [List.getD_eq_getElem?_getD] at hi ⊢
      by_cases hl : i < (slV vs).length
      · rwa [List.getElem?_append_left hl] at hi
      · rw [List.getElem?_append_right (by omega), List.getElem?_replicate] at hi
        split at hi <;> cases hi
    have h3 := slV_args G vs 0 i v h2
    rw [Nat.zero_add] at h3
    exact h1.2.2 (i, cv G v) h3
