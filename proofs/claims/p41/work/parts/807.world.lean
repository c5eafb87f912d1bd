section
/-! WHAT THE PICTURE SAYS OF THE HEAP -/
/-- the classes' numbers and slots, the array classes, the first address of what is made since, the addresses of what was there -/
abbrev AG : Type := va_G × (Nat → ClassId) × Nat × (Nat → Nat)
def plG (G : AG) (p : Nat) : Nat := if p < 32 then G.2.2.2 p else G.2.2.1 + (p - 32)
def cv (G : AG) (v : Value) : Value := match v with
  | .ref p => .ref (plG G p)
  | v => v
def rfo (G : AG) (v : Value) : Option Nat := match v with
  | .ref p => some (plG G p)
  | _ => none
def ce (G : AG) (c : AC) : va_E := match c with
  | .inl (k, l) => .inl (G.2.1 k, l.length, .inl (fun i => l.getD i 0))
  | .inr (c, fs) => if c = 50 then .inl (G.2.1 2, fs.length, .inr (.inr (.inr (.inr (fun i => rfo G (fs.getD i .null)))))) else .inr (c, fs.map (cv G))
def wsO (G : AG) (h : AH) : va_W := h.mapIdx (fun i c => (G.2.2.1 + i, ce G c))
theorem plG_hi (G : AG) {p : Nat} (h : 32 ≤ p) : plG G p = G.2.2.1 + (p - 32) := by
  unfold plG
  rw [if_neg (by omega)]
theorem plG_new (G : AG) (h : AH) : plG G (32 + h.length) = G.2.2.1 + h.length := by
  rw [plG_hi G (by omega)]
  congr 1
  omega
theorem cv_cat (G : AG) (v : Value) : (cv G v).category = v.category := by cases v <;> rfl
theorem cat_map (G : AG) (st : List Value) : ((st.map (cv G)).map fun v => v.category).sum = catS st := by
  unfold catS
  rw [List.map_map]
  congr 1
  exact List.map_congr_left (fun v _ => cv_cat G v)
theorem wsO_at (G : AG) (h : AH) (i : Nat) : (wsO G h)[i]? = h[i]?.map (fun c => (G.2.2.1 + i, ce G c)) := by simp [wsO]
theorem wsO_some {G : AG} {h : AH} {i : Nat} {c : AC} (q : h[i]? = some c) : (wsO G h)[i]? = some (G.2.2.1 + i, ce G c) := by rw [wsO_at, q]; rfl
theorem wsO_set {G : AG} {h : AH} {i : Nat} {c : AC} : (wsO G h).set i (G.2.2.1 + i, ce G c) = wsO G (h.set i c) := by
  apply List.ext_getElem?
  intro j
  rw [List.getElem?_set, wsO_at, wsO_at, List.getElem?_set]
  by_cases hj : i = j
  · subst hj
    simp [wsO]
  · simp [hj]
theorem wsO_push {G : AG} {h : AH} {c : AC} : wsO G h ++ [(G.2.2.1 + h.length, ce G c)] = wsO G (h ++ [c]) := by
  simp [wsO, List.mapIdx_append]
def AbA (G : AG) : Nat → Prop := fun q => G.2.2.1 ≤ q
theorem wsO_D (G : AG) (h : AH) : va_D (AbA G) (wsO G h) := by
  refine ⟨fun i j p q hp hq e => ?_, fun k q hq => ?_⟩
  · rw [wsO_at] at hp hq
    obtain ⟨c1, -, rfl⟩ := Option.map_eq_some_iff.mp hp
    obtain ⟨c2, -, rfl⟩ := Option.map_eq_some_iff.mp hq
    dsimp only at e
    omega
  · rw [wsO_at] at hq
    obtain ⟨c1, -, rfl⟩ := Option.map_eq_some_iff.mp hq
    exact Nat.le_add_right _ _
def tysO (G : AG) : List (ClassId × FieldType) := [(G.2.1 0, .int), (G.2.1 1, .boolean), (G.2.1 2, .object "LooksServed$Sheet")]
/-- the picture holds of a heap -/
def WdO (G : AG) (h : AH) (H : Heap) : Prop := H.size = G.2.2.1 + h.length ∧ va_P G.1 vwCl (wsO G h) H
/-- what was there before: script, statics, texts -/
def RO (G : AG) (xs : List Int32) (U : State) : Prop :=
  (∀ p k l, (roL xs)[p]? = some (.inl (k, l)) → va_T (if k = 3 then .byte else .int) (G.2.2.2 p) l.length (fun i => .int (l.getD i 0)) (AbA G) U U.heap) ∧
  (∀ p fs, (roL xs)[p]? = some (.inr (60, fs)) → va_O "java/lang/String" (G.2.2.2 p) (AbA G) U U.heap ∧ ∀ b, b < 2 → va_OF "java/lang/String" (sfN b) (sfD b) (cv G (fs.getD b .null)) (G.2.2.2 p) (AbA G) U U.heap) ∧
  (∀ k, k = 1 ∨ k = 2 ∨ k = 99 → va_Z (gsC k) (gsN k) (gsD k) (cv G (if k = 99 then .int 1 else .ref k)) (AbA G) U U.heap) ∧
  (∀ q ∈ SRl, ∃ tx, vk_R (clsN q.1) q.2.1 tx (plG G q.2.2) U) ∧
  (∀ q ∈ NLl, va_Nw (.methodLinkNest (clsN q.1) q.2.1 (mNm q.2.2.1) "LooksServed") U) ∧
  va_AO "LooksServed$Sheet" U ∧
  va_Nw (.castable "[I" "java/lang/Cloneable") U
def Am (G : AG) (xs : List Int32) (U : State) : Prop := va_K G.1 vwCl (tysO G) U ∧ RO G xs U
theorem Am.warm {G : AG} {xs : List Int32} {s U : State} (h : Am G xs s) (hW : s.WarmedH U.vm) (hk : ∀ a : Nat, a < s.heap.size → ¬ AbA G a → U.heap[a]? = s.heap[a]?) : Am G xs U := by
  obtain ⟨hK, h1, h2, h3, h4, h5, h6, h7⟩ := h
  refine ⟨va_K.moved hW.alike hK, fun p k l q => ((h1 p k l q).kept hk).moved hW.alike, fun p fs q => ⟨((h2 p fs q).1.kept hk).moved hW.alike, fun b hb => (((h2 p fs q).2 b hb).kept hk).moved hW.alike⟩, fun k q => ((h3 k q).kept hk).moved hW.alike, fun q hq => ?_, fun q hq => (h5 q hq).warmM hW, h6.moved hW.alike, h7.warmC hW⟩
  obtain ⟨tx, h⟩ := h4 q hq
  exact ⟨tx, h.warm hW⟩
theorem Am.same {G : AG} {xs : List Int32} {s U : State} (h : Am G xs s) (hv : U.vm = s.vm) (hh : U.heap = s.heap) : Am G xs U := by
  obtain ⟨hK, h1, h2, h3, h4, h5, h6, h7⟩ := h
  have ha : s.vm.Alike U.vm := by rw [hv]; exact Vm.Alike.refl _
  refine ⟨va_K.moved ha hK, fun p k l q => by rw [hh]; exact (h1 p k l q).moved ha, fun p fs q => ⟨by rw [hh]; exact (h2 p fs q).1.moved ha, fun b hb => by rw [hh]; exact ((h2 p fs q).2 b hb).moved ha⟩, fun k q => by rw [hh]; exact (h3 k q).moved ha, fun q hq => ?_, fun q hq => (h5 q hq).same rfl hv.symm, h6.moved ha, h7.same rfl hv.symm⟩
  obtain ⟨tx, h⟩ := h4 q hq
  exact ⟨tx, h.same hv⟩
-- the locals
def lvO (G : AG) (ls : Array Slot) (n : Nat) (L : LoS) : Prop := L.length = n ∧ ls.size = n ∧ lv_wf ls ∧ ∀ i v, L.getD i none = some v → ls[i]? = some (.val (cv G v))
def prO (G : AG) (L : LoS) : List (Nat × Value) := (List.range L.length).filterMap (fun i => (L.getD i none).map (fun v => (i, cv G v)))
theorem prO_mem {G : AG} {L : LoS} {i : Nat} {v : Value} (h : L.getD i none = some v) : (i, cv G v) ∈ prO G L := by
  unfold prO
  refine List.mem_filterMap.mpr ⟨i, List.mem_range.mpr ?_, by rw [h]; rfl⟩
  refine Nat.lt_of_not_le (fun q => ?_)
  rw [List.getD_eq_getElem?_getD, List.getElem?_eq_none q] at h
  cases h
theorem lvO_has {G : AG} {ls : Array Slot} {n : Nat} {L : LoS} (h : lvO G ls n L) : lv_has ls n (prO G L) := by
  refine ⟨h.2.1, h.2.2.1, fun q hq => ?_⟩
  obtain ⟨i, -, hi⟩ := List.mem_filterMap.mp hq
  obtain ⟨v, h1, rfl⟩ := Option.map_eq_some_iff.mp hi
  exact h.2.2.2 i v h1
theorem lvO_set {G : AG} {ls ls' : Array Slot} {n : Nat} {L : LoS} {i : Nat} {v : Value} (h : lvO G ls n L) (hk : okS L i = true) (h' : lv_has ls' n ((i, cv G v) :: (prO G L).filter (fun q => !(q.1 == i) && !(q.1 + 1 == i && q.2.category == 2)))) : lvO G ls' n (L.set i (some v)) := by
  unfold okS at hk
  rw [Bool.and_eq_true, decide_eq_true_eq] at hk
  refine ⟨by rw [List.length_set]; exact h.1, h'.1, h'.2.1, fun j w hj => ?_⟩
  by_cases hij : i = j
  · subst hij
    rw [List.getD_eq_getElem?_getD, List.getElem?_set_self hk.1] at hj
    cases hj
    exact h'.2.2 (i, cv G v) List.mem_cons_self
  · rw [List.getD_eq_getElem?_getD, List.getElem?_set_ne hij, ← List.getD_eq_getElem?_getD] at hj
    refine h'.2.2 (j, cv G w) (List.mem_cons_of_mem _ (List.mem_filter.mpr ⟨prO_mem hj, ?_⟩))
    have h1 : (j == i) = false := beq_false_of_ne (fun q => hij q.symm)
    rw [Bool.and_eq_true]
    refine ⟨by simp [h1], ?_⟩
    by_cases h2 : j + 1 = i
    · subst h2
      have h3 := hk.2
      dsimp only at h3
      rw [hj] at h3
      have h4 : (cv G w).category ≠ 2 := by
        rw [cv_cat]
        intro h5
        cases w <;> simp [isW, Value.category] at h3 h5
      simp [h4]
    · simp [h2]
theorem lvO_lt {L : LoS} {i : Nat} (hk : okS L i = true) : i < L.length := by
  unfold okS at hk
  rw [Bool.and_eq_true, decide_eq_true_eq] at hk
  exact hk.1
theorem slV_len (G : AG) (vs : List Value) : (lg_sl (vs.map (cv G))).length = (slV vs).length := by
  induction vs with
  | nil => rfl
  | cons v vs ih =>
    have e1 : lg_sl ((v :: vs).map (cv G)) = (if (cv G v).category = 2 then [Slot.val (cv G v), .second] else [.val (cv G v)]) ++ lg_sl (vs.map (cv G)) := rfl
    have e2 : slV (v :: vs) = (if v.category = 2 then [some v, none] else [some v]) ++ slV vs := rfl
    rw [e1, e2, List.length_append, List.length_append, ih, cv_cat]
    split <;> rfl
theorem slV_args (G : AG) (vs : List Value) : ∀ (k i : Nat) (v : Value), (slV vs).getD i none = some v → (k + i, cv G v) ∈ lv_args k (vs.map (cv G)) := by
  induction vs with
  | nil => intro k i v h; simp [slV] at h
  | cons w vs ih =>
    intro k i v h
    have e1 : lv_args k ((w :: vs).map (cv G)) = (k, cv G w) :: lv_args (if (cv G w).category = 2 then k + 2 else k + 1) (vs.map (cv G)) := rfl
    have e2 : slV (w :: vs) = (if w.category = 2 then [some w, none] else [some w]) ++ slV vs := rfl
    rw [e1, cv_cat]
    rw [e2] at h
    by_cases hc : w.category = 2
    · rw [if_pos hc] at h ⊢
      match i, h with
      | 0, h =>
        have : w = v := by simpa using h
        subst this
        exact List.mem_cons_self
      | 1, h => simp at h
      | i + 2, h =>
        have h2 : (slV vs).getD i none = some v := by simpa using h
        have h3 := ih (k + 2) i v h2
        rw [show k + 2 + i = k + (i + 2) by omega] at h3
        exact List.mem_cons_of_mem _ h3
    · rw [if_neg hc] at h ⊢
      match i, h with
      | 0, h =>
        have : w = v := by simpa using h
        subst this
        exact List.mem_cons_self
      | i + 1, h =>
        have h2 : (slV vs).getD i none = some v := by simpa using h
        have h3 := ih (k + 1) i v h2
        rw [show k + 1 + i = k + (i + 1) by omega] at h3
        exact List.mem_cons_of_mem _ h3
theorem lvO_entry (G : AG) {vs : List Value} {n : Nat} (h : (slV vs).length ≤ n) : lvO G ((lg_sl (vs.map (cv G)) ++ List.replicate (n - (lg_sl (vs.map (cv G))).length) Slot.unset).toArray) n (entL n vs) := by
  have h1 := lv_entry (vs.map (cv G)) (n := n) (by rw [slV_len]; exact h)
  refine ⟨?_, h1.1, h1.2.1, fun i v hi => ?_⟩
  · unfold entL
    rw [List.length_append, List.length_replicate]
    omega
  · have h2 : (slV vs).getD i none = some v := by
      unfold entL at hi
      rw [List.getD_eq_getElem?_getD] at hi ⊢
      by_cases hl : i < (slV vs).length
      · rwa [List.getElem?_append_left hl] at hi
      · rw [List.getElem?_append_right (by omega), List.getElem?_replicate] at hi
        split at hi <;> cases hi
    have h3 := slV_args G vs 0 i v h2
    rw [Nat.zero_add] at h3
    exact h1.2.2 (i, cv G v) h3
end
section
/-! ROWS THAT WRITE OR MAKE A CELL, over the picture: with the heap's size -/
theorem WdO_set {G : AG} {h : AH} {H H1 : Heap} {i : Nat} {c c' : AC} (hW : WdO G h H) (hc : h[i]? = some c) (he : va_at G.1 vwCl (G.2.2.1 + i, ce G c') H1) (z : H1.size = H.size) (oq : ∀ q, q ≠ G.2.2.1 + i → H1[q]? = H[q]?) : WdO G (h.set i c') H1 :=
  ⟨by rw [z, hW.1, List.length_set], by rw [← wsO_set]; exact hW.2.set (wsO_D G h) (wsO_some hc) he oq⟩
theorem WdO_push {G : AG} {h : AH} {H H1 : Heap} {c : AC} (hW : WdO G h H) (he : va_at G.1 vwCl (G.2.2.1 + h.length, ce G c) H1) (z : H1.size = H.size + 1) (oq : ∀ q, q < H.size → H1[q]? = H[q]?) : WdO G (h ++ [c]) H1 := by
  refine ⟨by rw [z, hW.1, List.length_append]; rfl, ?_⟩
  rw [← wsO_push]
  refine va_P.app (hW.2.kept (fun k x hx => oq x.1 ((hW.2 k x hx).lt))) (fun k x hx => ?_)
  have hz : k < 1 := (List.getElem?_eq_some_iff.mp hx).1
  rw [show k = 0 by omega] at hx
  cases hx
  exact he
theorem sm_grow {G : AG} {s : State} {H H1 : Heap} {locs : List Loc} (hS : va_S (AbA G) s.heap H locs) (z : H1.size = H.size + 1) (oq : ∀ q, q < H.size → H1[q]? = H[q]?) : va_S (AbA G) s.heap H1 locs :=
  ⟨Nat.le_trans hS.1 (by omega), fun x h1 h2 => (oq x (Nat.lt_of_lt_of_le h1 hS.1)).trans (hS.2.1 x h1 h2), hS.2.2⟩
theorem gD_set {l : List Int32} {k : Nat} {x : Int32} (hk : k < l.length) (j : Nat) : (l.set k x).getD j 0 = if j = k then x else l.getD j 0 := by
  rw [List.getD_eq_getElem?_getD, List.getD_eq_getElem?_getD, List.getElem?_set]
  by_cases h : k = j
  · subst h
    simp [hk]
  · rw [if_neg h, if_neg (fun q => h q.symm)]
theorem ce_set (G : AG) {H1 : Heap} {a k n : Nat} {l : List Int32} {x : Int32} (hn : n < l.length) (e : H1[a]? = some ((vp_cell (G.2.1 k) (l.length, .inl (fun i => l.getD i 0))).setSlot n (.int x))) : va_at G.1 vwCl (a, ce G (.inl (k, l.set n x))) H1 := by
  show H1[a]? = some (vp_cell _ _)
  rw [e]
  dsimp only
  rw [List.length_set, vp_cell_i, vp_cell_i, arrV_store]
  congr 2
  funext q
  rw [gD_set hn]
  by_cases hq : q = n
  · subst hq
    simp [updV]
  · simp [updV, hq]
section ROWS
variable {p : Program} {l : Launch} {e : Env} {R : Room} {s : State} {m : MethodId} {args : Array Value} {below : List Frame} {meth : Method} {c : Code} {H : Heap} {locs : List Loc} {cells slots : Nat} {Q : State → Prop}
variable {cc : ByteArray} {pc : Nat} {ls : Array Slot} {rest : List Value} {G : AG} {h : AH}
theorem inl_lt {i : Int32} {n : Nat} (h : vp_in i n) : i.toNatClampNeg < n := Nat.not_le.mp fun q => h (Or.inr q)
theorem sm_iast (hx : p.tables.exec = Jvm.exec) (hb : c.code = cc) (hK : va_K G.1 vwCl (tysO G) s) (hW : WdO G h H) (hS : va_S (AbA G) s.heap H locs) {i x : Int32} {k : Nat} {f : List Int32} (hc : h[k]? = some (.inl (0, f))) (hin : vp_in i f.length) (hdg : decode cc pc = .ok (.iastore, 1))
    (kk : ∀ (H1 : Heap) (locs1 : List Loc), WdO G (h.set k (.inl (0, f.set i.toNatClampNeg x))) H1 → va_S (AbA G) s.heap H1 locs1 → W p l e R s m args below meth c H1 locs1 cells slots Q (F0 m (pc + 1) ls rest)) : W p l e R s m args below meth c H locs cells slots Q (F0 m pc ls (.int x :: .int i :: .ref (G.2.2.1 + k) :: rest)) := by
  have ha := wsO_some (G := G) hc
  refine W.iast hx hb (hW.2 k _ ha) ((hK.2 0 _ rfl).1 f.length (fun j => .int (f.getD j 0))) (fun q => by cases q) (by show ¬ (i < 0 ∨ (arrV _ _ _).slots.size ≤ _); rw [arrV_size]; exact hin) rfl rfl hdg fun H1 e z oq => ?_
  exact kk H1 _ (WdO_set hW hc (ce_set G (inl_lt hin) e) z oq) (hS.put z oq (Nat.le_add_right _ _))
theorem nar_b {x : Int32} (h : x = 0 ∨ x = 1) : narrow .boolean (.int x) = .int x := by
  rcases h with h | h <;> subst h <;> decide
theorem sm_zast (hx : p.tables.exec = Jvm.exec) (hb : c.code = cc) (hK : va_K G.1 vwCl (tysO G) s) (hW : WdO G h H) (hS : va_S (AbA G) s.heap H locs) {i x : Int32} {k : Nat} {f : List Int32} (hxx : x = 0 ∨ x = 1) (hc : h[k]? = some (.inl (1, f))) (hin : vp_in i f.length) (hdg : decode cc pc = .ok (.bastore, 1))
    (kk : ∀ (H1 : Heap) (locs1 : List Loc), WdO G (h.set k (.inl (1, f.set i.toNatClampNeg x))) H1 → va_S (AbA G) s.heap H1 locs1 → W p l e R s m args below meth c H1 locs1 cells slots Q (F0 m (pc + 1) ls rest)) : W p l e R s m args below meth c H locs cells slots Q (F0 m pc ls (.int x :: .int i :: .ref (G.2.2.1 + k) :: rest)) := by
  have ha := wsO_some (G := G) hc
  refine W.zast hx hb (hW.2 k _ ha) ((hK.2 1 _ rfl).1 f.length (fun j => .int (f.getD j 0))) (fun q => by cases q) (by show ¬ (i < 0 ∨ (arrV _ _ _).slots.size ≤ _); rw [arrV_size]; exact hin) rfl rfl hdg fun H1 e z oq => ?_
  rw [nar_b hxx] at e
  exact kk H1 _ (WdO_set hW hc (ce_set G (inl_lt hin) e) z oq) (hS.put z oq (Nat.le_add_right _ _))
theorem ce_obj (G : AG) {c : Nat} (fs : List Value) (hc : c ≠ 50) : ce G (.inr (c, fs)) = .inr (c, fs.map (cv G)) := by
  unfold ce
  dsimp only
  rw [if_neg hc]
theorem sm_put {y : Nat} (hx : p.tables.exec = Jvm.exec) (hb : c.code = cc) (hts : ∀ w ∈ tblG, w.before args s = true) (hown : s.vm.findClass (clsN (mCn y)) = some m.cls) (hK : va_K G.1 vwCl (tysO G) s) (hW : WdO G h H) (hS : va_S (AbA G) s.heap H locs) (hin2 : mFl y = 2 → meth.name = "<init>") {k a b index : Nat} {fs : List Value} {v : Value} (ha8 : a < 8) (hbn : b < nfT a) (hc : h[k]? = some (.inr (a, fs))) (hlen : b < fs.length)
    (hlink : wFL (mCn y, index, a, b) ∈ tblG) (hfin : (TT a b).2.2.2 = true → mFl y = 2 ∧ (TT a b).1 = clsN (mCn y)) (hn : narrow (tyT a b) (cv G v) = cv G v) (hfit : fits (tyT a b) (cv G v) = true) (hdg : decode cc pc = .ok (.putfield index, 3))
    (kk : ∀ (H1 : Heap) (locs1 : List Loc), WdO G (h.set k (.inr (a, fs.set b v))) H1 → va_S (AbA G) s.heap H1 locs1 → W p l e R s m args below meth c H1 locs1 cells slots Q (F0 m (pc + 3) ls rest)) : W p l e R s m args below meth c H locs cells slots Q (F0 m pc ls (cv G v :: .ref (G.2.2.1 + k) :: rest)) := by
  have hts' := hts
  have hin := ws_in ha8
  have hty := ty_ok ha8
  have hap := va_apart (own := clsN (mCn y)) hts hin (tyT a) hty (nm_ok ha8) hK (vw_at ha8)
  have ha := wsO_some (G := G) hc
  rw [ce_obj G fs (by omega)] at ha
  obtain ⟨r, h1, cell, q1, q2, q3, q4⟩ := hW.2 k _ ha
  have hr : r = (clsN a, TT a, nfT a) := Option.some.inj (h1.symm.trans (vw_at ha8))
  subst hr
  obtain ⟨hSl, hfc, kC, hkC, hkind⟩ := hK.1 a _ (vw_at ha8)
  obtain ⟨cf, kf, fi, f, hi, hsl⟩ := hSl b hbn
  have hst := (u_facts hfc hkC (u_lays hts hin hbn) hi).1
  have hlay := hts _ (hin _ (u_in_lay hbn))
  unfold u_lay at hlay
  have hlk := hts _ hlink
  have fin : ∀ H' : Heap, H'[G.2.2.1 + k]? = some (cell.setSlot f.slot (cv G v)) → H'.size = H.size → (∀ q, q ≠ G.2.2.1 + k → H'[q]? = H[q]?) → WdO G (h.set k (.inr (a, fs.set b v))) H' ∧ va_S (AbA G) s.heap H' (locs ++ [⟨G.2.2.1 + k, f.slot⟩]) := by
    intro H' e1 e2 e3
    refine ⟨WdO_set hW hc ?_ e2 e3, hS.put e2 e3 (Nat.le_add_right _ _)⟩
    rw [hsl] at e1
    rw [ce_obj G _ (by omega), List.map_set]
    exact ⟨_, vw_at ha8, t_OB.to (V := updV (vp_V (fs.map (cv G))) b (cv G v)) ⟨_, e1, q2, q3, t_set q4 hap hbn (cv G v)⟩ (fun j _ => vp_updV_set (by rw [List.length_map]; exact hlen) (cv G v) j)⟩
  by_cases hf : (TT a b).2.2.2 = true
  · rw [if_pos hf] at hlay
    obtain ⟨g1, g2⟩ := hfin hf
    have hcf : m.cls = cf := by
      obtain ⟨_, _, c', _, _, _, -, -, hf', -, -, -, hown2, -⟩ := Cond.laysFinal_spec hlay
      have e1 : c' = cf := by have := hi.symm.trans hf'; simp at this; exact this.1.symm
      rw [g2] at hown2
      rw [← e1]; exact Option.some.inj (hown.symm.trans hown2)
    have h6 := u_fits hfc hkC hkind (Or.inr hlay) hi (hty b hbn) hn hfit
    refine W.putFinK hx hb hown hlk hi hst hcf (hin2 g1) (by rw [q2]; exact h6) q1 q3 (by rw [hsl]; exact k2_hasslot (q4 b hbn)) rfl rfl hdg fun H' e1 e2 e3 => ?_
    obtain ⟨w1, w2⟩ := fin H' e1 e2 e3
    exact kk H' _ w1 w2
  · rw [if_neg hf] at hlay
    have h6 := u_store hfc hkC hkind hlay hi (hty b hbn) hn hfit
    refine W.putK hx hb (f := f) ⟨hown, hlk, ⟨_, _, _, hi⟩, hst⟩ (by rw [q2]; exact h6) q1 q3 (by rw [hsl]; exact k2_hasslot (q4 b hbn)) rfl rfl hdg fun H' e1 e2 e3 => ?_
    obtain ⟨w1, w2⟩ := fin H' e1 e2 e3
    exact kk H' _ w1 w2
theorem ce_arr (G : AG) (fs : List Value) : ce G (.inr (50, fs)) = .inl (G.2.1 2, fs.length, .inr (.inr (.inr (.inr (fun i => rfo G (fs.getD i .null)))))) := rfl
theorem sm_astq (hx : p.tables.exec = Jvm.exec) (hb : c.code = cc) (hK : va_K G.1 vwCl (tysO G) s) (hW : WdO G h H) (hS : va_S (AbA G) s.heap H locs) {i : Int32} {k q : Nat} {fs gs : List Value} (hq32 : 32 ≤ q) (hc : h[k]? = some (.inr (50, fs))) (hcq : h[q - 32]? = some (.inr (3, gs))) (hin : vp_in i fs.length) (hdg : decode cc pc = .ok (.aastore, 1))
    (kk : ∀ (H1 : Heap) (locs1 : List Loc), WdO G (h.set k (.inr (50, fs.set i.toNatClampNeg (.ref q)))) H1 → va_S (AbA G) s.heap H1 locs1 → W p l e R s m args below meth c H1 locs1 cells slots Q (F0 m (pc + 1) ls rest)) : W p l e R s m args below meth c H locs cells slots Q (F0 m pc ls (.ref (plG G q) :: .int i :: .ref (G.2.2.1 + k) :: rest)) := by
  have hlt := inl_lt hin
  have h0 : ¬ i < 0 := fun q => hin (Or.inl q)
  have ha := wsO_some (G := G) hc
  rw [ce_arr] at ha
  have hv := wsO_some (G := G) hcq
  rw [ce_obj G gs (by decide)] at hv
  rw [plG_hi G hq32]
  obtain ⟨r', hr', cellV, g1, g2, g3, -⟩ := hW.2 _ _ hv
  have hcls := (hK.1 3 _ (vw_at (by decide))).2
  obtain ⟨kA, comp, k1, k2, k3, -⟩ := (hK.2 2 _ rfl).2
  have hcomp : comp = G.1.1 3 := Option.some.inj (k3.symm.trans hcls.1)
  subst hcomp
  obtain ⟨kC, hkC, -⟩ := hcls.2
  refine W.aast hx hb (hW.2 k _ ha) (fun q h => by cases h) (fun h => by cases h) k1 k2 rfl hkC ⟨h0, by show _ < (arrV _ _ _).slots.size; rw [arrV_size]; exact hlt⟩ g1 (fun q h => by rw [g3] at h; cases h) (by rw [g2]; exact hkC) (by rw [g2]; exact va_assign hcls) rfl rfl hdg fun H1 e z oq => ?_
  refine kk H1 _ (WdO_set hW hc ?_ z oq) (hS.put z oq (Nat.le_add_right _ _))
  rw [ce_arr]
  show H1[G.2.2.1 + k]? = some (vp_cell _ _)
  rw [e, List.length_set]
  rw [vp_cell_q, vp_cell_q, arrV_store]
  congr 2
  funext j
  by_cases hq : j = i.toNatClampNeg
  · subst hq
    simp [updV, List.getElem?_set, hlt, rfo, va_rf, plG_hi G hq32]
  · simp [updV, hq, List.getElem?_set, Ne.symm hq]
theorem sm_newa (hx : p.tables.exec = Jvm.exec) (hb : c.code = cc) (hts : ∀ w ∈ tblG, w.before args s = true) (hK : va_K G.1 vwCl (tysO G) s) (hW : WdO G h H) (hS : va_S (AbA G) s.heap H locs) {t : ArrayType} {k : Nat} (ht : (t = .int ∧ k = 0) ∨ (t = .boolean ∧ k = 1)) {n : Int32} (hn : ¬ n < 0) (hN : n.toNatClampNeg ≤ 100000) (hcells : cells + 1 ≤ R.cells) (hslots : slots + n.toNatClampNeg ≤ R.slots) (hdg : decode cc pc = .ok (.newarray t, 2))
    (kk : ∀ (H1 : Heap), WdO G (h ++ [.inl (k, List.replicate n.toNatClampNeg 0)]) H1 → va_S (AbA G) s.heap H1 locs → W p l e R s m args below meth c H1 locs (cells + 1) (slots + n.toNatClampNeg) Q (F0 m (pc + 2) ls (.ref (G.2.2.1 + h.length) :: rest))) : W p l e R s m args below meth c H locs cells slots Q (F0 m pc ls (.int n :: rest)) := by
  rw [← hW.1] at kk
  have hr : ∀ j, (List.replicate n.toNatClampNeg (0 : Int32)).getD j 0 = 0 := fun j => by
    rw [List.getD_eq_getElem?_getD, List.getElem?_replicate]
    split <;> rfl
  rcases ht with ⟨rfl, rfl⟩ | ⟨rfl, rfl⟩
  · refine va_newaK hx hb (atype := .int) (hts _ tw_int) rfl hdg rfl hn rfl (by show n.toNatClampNeg * 4 ≤ 536870912; omega) hcells hslots rfl fun H1 cA e1 z1 o1 hAr hNm => ?_
    refine kk H1 (WdO_push hW ?_ z1 o1) (sm_grow hS z1 o1)
    have hcA : cA = G.2.1 0 := by
      have h2 : s.vm.findClass ("[" ++ FieldType.int.toString) = some (G.2.1 0) := (hK.2 0 _ rfl).2
      exact Option.some.inj (hNm.symm.trans h2)
    subst hcA
    show H1[G.2.2.1 + h.length]? = some (vp_cell _ _)
    rw [← hW.1, e1, vp_cell_i, List.length_replicate]
    congr 2
    funext j
    rw [hr]
    rfl
  · refine va_newaK hx hb (atype := .boolean) (hts _ tw_bool) rfl hdg rfl hn rfl (by show n.toNatClampNeg * 1 ≤ 536870912; omega) hcells hslots rfl fun H1 cA e1 z1 o1 hAr hNm => ?_
    refine kk H1 (WdO_push hW ?_ z1 o1) (sm_grow hS z1 o1)
    have hcA : cA = G.2.1 1 := by
      have h2 : s.vm.findClass ("[" ++ FieldType.boolean.toString) = some (G.2.1 1) := (hK.2 1 _ rfl).2
      exact Option.some.inj (hNm.symm.trans h2)
    subst hcA
    show H1[G.2.2.1 + h.length]? = some (vp_cell _ _)
    rw [← hW.1, e1, vp_cell_i, List.length_replicate]
    congr 2
    funext j
    rw [hr]
    rfl
theorem sm_newq (hx : p.tables.exec = Jvm.exec) (hb : c.code = cc) {own : String} {index : Nat} (hown : s.vm.findClass own = some m.cls) (hlink : (Cond.classLink own index "LooksServed$Sheet").before args s = true) (hover : va_AO "LooksServed$Sheet" s) (hK : va_K G.1 vwCl (tysO G) s) (hW : WdO G h H) (hS : va_S (AbA G) s.heap H locs) {n : Int32} (hn : ¬ n < 0) (hN : n.toNatClampNeg ≤ 100000) (hcells : cells + 1 ≤ R.cells) (hslots : slots + n.toNatClampNeg ≤ R.slots) (hdg : decode cc pc = .ok (.anewarray index, 3))
    (kk : ∀ (H1 : Heap), WdO G (h ++ [.inr (50, List.replicate n.toNatClampNeg .null)]) H1 → va_S (AbA G) s.heap H1 locs → W p l e R s m args below meth c H1 locs (cells + 1) (slots + n.toNatClampNeg) Q (F0 m (pc + 3) ls (.ref (G.2.2.1 + h.length) :: rest))) : W p l e R s m args below meth c H locs cells slots Q (F0 m pc ls (.int n :: rest)) := by
  rw [← hW.1] at kk
  refine W.anew hx hb hown hlink (va_AO.use hover) rfl hdg rfl hn (by omega) hcells hslots fun cA kA comp f1 f2 f3 f4 => ?_
  generalize hH1 : H.push ({ cls := cA, slots := Array.replicate n.toNatClampNeg .null, vm := .none } : Cell) = H1
  have z1 : H1.size = H.size + 1 := by rw [← hH1, Array.size_push]
  have e1 : H1[H.size]? = some (arrV cA n.toNatClampNeg (fun _ => .null)) := by rw [← hH1, Array.getElem?_push_size, ← arrV_new]
  have o1 : ∀ q : Nat, q < H.size → H1[q]? = H[q]? := fun q hq => by rw [← hH1, Array.getElem?_push, if_neg (Nat.ne_of_lt hq)]
  refine kk H1 (WdO_push hW ?_ z1 o1) (sm_grow hS z1 o1)
  obtain ⟨kA', comp', k1, k2, k3, k4⟩ := (hK.2 2 _ rfl).2
  have hcA : cA = G.2.1 2 := Option.some.inj (f1.symm.trans k4)
  subst hcA
  rw [ce_arr]
  show H1[G.2.2.1 + h.length]? = some (vp_cell _ _)
  rw [← hW.1, e1, vp_cell_q, List.length_replicate]
  congr 2
  funext j
  rw [List.getD_eq_getElem?_getD, List.getElem?_replicate]
  split <;> rfl
theorem cv_df (G : AG) (t : FieldType) : cv G (defaultValue t) = defaultValue t := by cases t <;> rfl
theorem sm_new (hx : p.tables.exec = Jvm.exec) (hb : c.code = cc) (hts : ∀ w ∈ tblG, w.before args s = true) {own : String} {index a : Nat} (ha8 : a < 8) (hown : s.vm.findClass own = some m.cls) (hcl : (Cond.classLink own index (clsN a)).before args s = true) (hinst : (Cond.instantiable (clsN a) (nfT a)).before args s = true) (hini : (Cond.initialized (clsN a)).before args s = true) (hK : va_K G.1 vwCl (tysO G) s) (hW : WdO G h H) (hS : va_S (AbA G) s.heap H locs) (hcells : cells + 1 ≤ R.cells) (hslots : slots + nfT a ≤ R.slots) (hdg : decode cc pc = .ok (.new index, 3))
    (kk : ∀ (H1 : Heap), WdO G (h ++ [.inr (a, dfV a (nfT a))]) H1 → va_S (AbA G) s.heap H1 locs → W p l e R s m args below meth c H1 locs (cells + 1) (slots + nfT a) Q (F0 m (pc + 3) ls (.ref (G.2.2.1 + h.length) :: rest))) : W p l e R s m args below meth c H locs cells slots Q (F0 m pc ls rest) := by
  rw [← hW.1] at kk
  have hKn := hK.1 a _ (vw_at ha8)
  refine W.newcK hx hb hown hcl hinst hini rfl hdg hcells hslots hKn.2.1 rfl fun H1 kC hkC e1 z1 o1 => ?_
  refine kk H1 (WdO_push hW ?_ z1 o1) (sm_grow hS z1 o1)
  rw [ce_obj G _ (by omega), ← hW.1]
  refine ⟨_, vw_at ha8, (u_born (tyT a) hts (ws_in ha8) hKn hkC e1 (ty_ok ha8)).to (fun j hj => ?_)⟩
  have hj' : j < nfT a := hj
  unfold vp_V dfV
  rw [List.getD_eq_getElem?_getD, List.getElem?_map, List.getElem?_map, List.getElem?_range hj']
  exact (cv_df G _).symm
end ROWS
end
section
/-! ROWS OF TWO NATIVE METHODS OVER THE PICTURE: arraycopy of numbers, clone of an int[] -/
theorem cpL_len (f g : List Int32) (sp dp n : Nat) : (cpL f g sp dp n).length = g.length := by
  unfold cpL
  rw [List.length_map, List.length_range]
theorem cpL_at (f g : List Int32) (sp dp n : Nat) (hl : dp + n ≤ g.length) (j : Nat) : (cpL f g sp dp n).getD j 0 = va_cpy (fun i => f.getD i 0) (fun i => g.getD i 0) sp dp n j := by
  unfold cpL
  rw [List.getD_eq_getElem?_getD, List.getElem?_map]
  by_cases hj : j < g.length
  · rw [List.getElem?_range hj]
    rfl
  · rw [List.getElem?_eq_none (by rw [List.length_range]; omega)]
    unfold va_cpy
    rw [if_neg (by omega)]
    show (0 : Int32) = g.getD j 0
    rw [List.getD_eq_getElem?_getD, List.getElem?_eq_none (by omega)]
    rfl
section ROWS2
variable {p : Program} {l : Launch} {e : Env} {R : Room} {s : State} {m : MethodId} {args : Array Value} {below : List Frame} {meth : Method} {c : Code} {H : Heap} {locs : List Loc} {cells slots : Nat} {Q : State → Prop}
variable {cc : ByteArray} {pc : Nat} {ls : Array Slot} {rest : List Value} {G : AG} {h : AH}
theorem sm_copy (hx : p.tables.exec = Jvm.exec) (hb : c.code = cc) (hml : c.maxLocals = ls.size) {own : String} {index : Nat} (hown : s.vm.findClass own = some m.cls) (hlink : (Cond.methodLink own index arraycopyName).before args s = true) (hnat : (Cond.native arraycopyName).before args s = true) (hstat : (Cond.static arraycopyName).before args s = true) (hini : (Cond.initialized "java/lang/System").before args s = true)
    (hK : va_K G.1 vwCl (tysO G) s) (hW : WdO G h H) (hS : va_S (AbA G) s.heap H locs) {k k0 k1 : Nat} {f g : List Int32} (hk : k = 0 ∨ k = 1) (ha0 : h[k0]? = some (.inl (k, f))) (ha1 : h[k1]? = some (.inl (k, g)))
    {sp dp n : Int32} (h1 : ¬ sp < 0) (h2 : ¬ dp < 0) (h3 : ¬ n < 0) (h4 : sp.toNatClampNeg + n.toNatClampNeg ≤ f.length) (h5 : dp.toNatClampNeg + n.toNatClampNeg ≤ g.length) (hfit : k = 1 → ∀ x ∈ f, x = 0 ∨ x = 1)
    (hframes : 1 ≤ R.frames) (hlocals : (rest.map fun v => v.category).sum + (nativeFrameWords "java/lang/System" "arraycopy" 5 + 11) ≤ R.locals) (hdg : decode cc pc = .ok (.invokestatic index, 3))
    (kk : ∀ (H1 : Heap) (locs1 : List Loc), WdO G (h.set k1 (.inl (k, cpL f g sp.toNatClampNeg dp.toNatClampNeg n.toNatClampNeg))) H1 → va_S (AbA G) s.heap H1 locs1 → W p l e R s m args below meth c H1 locs1 cells slots Q (F0 m (pc + 3) ls rest)) : W p l e R s m args below meth c H locs cells slots Q (F0 m pc ls (.int n :: .int dp :: .ref (G.2.2.1 + k1) :: .int sp :: .ref (G.2.2.1 + k0) :: rest)) := by
  have nn : ∀ z : Int32, ¬ z < 0 → z.toInt = (z.toNatClampNeg : Int) := by
    intro z hz
    have hz0 : (0 : Int) ≤ z.toInt := by
      have := Int32.not_lt.mp hz
      simpa using Int32.le_iff_toInt_le.mp this
    show z.toInt = ((z.toInt.toNat : Nat) : Int)
    omega
  obtain ⟨ty, ht, hprim, hft⟩ : ∃ ty : FieldType, (tysO G)[k]? = some (G.2.1 k, ty) ∧ refKind ty = false ∧ ∀ i, i < n.toNatClampNeg → fits ty (.int (f.getD (sp.toNatClampNeg + i) 0)) = true := by
    rcases hk with rfl | rfl
    · exact ⟨.int, rfl, rfl, fun i _ => rfl⟩
    · refine ⟨.boolean, rfl, rfl, fun i hi => ?_⟩
      have hl : sp.toNatClampNeg + i < f.length := by omega
      have hm : f.getD (sp.toNatClampNeg + i) 0 ∈ f := by
        rw [List.getD_eq_getElem?_getD, List.getElem?_eq_getElem hl]
        exact List.getElem_mem hl
      rcases hfit rfl _ hm with e | e <;> rw [e] <;> decide
  intro T hT X
  have hc0 : H[G.2.2.1 + k0]? = some (vp_cell (G.2.1 k) (f.length, .inl (fun i => f.getD i 0))) := hW.2 k0 _ (wsO_some ha0)
  have hc1 : H[G.2.2.1 + k1]? = some (vp_cell (G.2.1 k) (g.length, .inl (fun i => g.getD i 0))) := hW.2 k1 _ (wsO_some ha1)
  obtain ⟨-, kA, hkA, cmA, hkkA⟩ := (hK.2 k _ ht).1 f.length (fun j => .int (f.getD j 0))
  obtain ⟨-, kB, hkB, cmB, hkkB⟩ := (hK.2 k _ ht).1 g.length (fun j => .int (g.getD j 0))
  obtain ⟨vm', X', step⟩ := X.arraycopy hx hown hlink hnat hstat hini (src := G.2.2.1 + k0) (dst := G.2.2.1 + k1) (cs := vp_cell (G.2.1 k) (f.length, .inl (fun i => f.getD i 0))) (cd := vp_cell (G.2.1 k) (g.length, .inl (fun i => g.getD i 0))) (srcPos := sp) (destPos := dp) (n := n) (by rw [hT]; exact hc0) (by rw [hT]; exact hc1)
    (fun _ h => by cases h) (fun _ h => by cases h) (fun h => by cases h) (fun h => by cases h) hkA hkB hkkA hkkB (by simp [hprim]) h1 h2 h3
    (by rw [nn sp h1, nn n h3]; show ¬ _ > ((arrV _ _ _).slots.size : Int); rw [arrV_size]; omega)
    (by rw [nn dp h2, nn n h3]; show ¬ _ > ((arrV _ _ _).slots.size : Int); rw [arrV_size]; omega)
    (fun vm₁ _ i hi => by
      have e : (vp_cell (G.2.1 k) (f.length, .inl (fun i => f.getD i 0))).slots.getD (sp.toNatClampNeg + i) .null = .int (f.getD (sp.toNatClampNeg + i) 0) := by
        show (arrV _ _ (fun j => .int (f.getD j 0))).slots.getD _ _ = _
        rw [Array.getD_eq_getD_getElem?, arrV_read _ _ (by omega)]
        rfl
      refine ⟨?_, ?_⟩
      · rw [e]
        exact hft i hi
      · rw [e]
        exact trivial)
    (g := F0 m pc ls (.int n :: .int dp :: .ref (G.2.2.1 + k1) :: .int sp :: .ref (G.2.2.1 + k0) :: rest)) rfl (by rw [hml]) (rest := rest) rfl (by rw [hb]; exact hdg) hframes (by show 2 * 0 + _ + _ ≤ _; omega)
  have e1 : copied (vp_cell (G.2.1 k) (f.length, .inl (fun i => f.getD i 0))) (vp_cell (G.2.1 k) (g.length, .inl (fun i => g.getD i 0))) sp dp n = vp_cell (G.2.1 k) (g.length, .inl (va_cpy (fun i => f.getD i 0) (fun i => g.getD i 0) sp.toNatClampNeg dp.toNatClampNeg n.toNatClampNeg)) := va_copied (fun z => .int z) (G.2.1 k) (G.2.1 k) (n0 := f.length) (n1 := g.length) (dp := dp.toNatClampNeg) (fun i => f.getD i 0) (fun i => g.getD i 0) h4
  rw [e1] at X' step
  have hl : G.2.2.1 + k1 < H.size := (Array.getElem?_eq_some_iff.mp hc1).1
  generalize hcell : vp_cell (G.2.1 k) (g.length, .inl (va_cpy (fun i => f.getD i 0) (fun i => g.getD i 0) sp.toNatClampNeg dp.toNatClampNeg n.toNatClampNeg)) = cell1 at X' step
  have hheap : ((T.setVm vm').setCell (G.2.2.1 + k1) cell1).heap = H.setIfInBounds (G.2.2.1 + k1) cell1 := by rw [← hT]; rfl
  have oq : ∀ q : Nat, q ≠ G.2.2.1 + k1 → (H.setIfInBounds (G.2.2.1 + k1) cell1)[q]? = H[q]? := fun q hq => by simp [Array.getElem?_setIfInBounds, Ne.symm hq]
  have hw : WdO G (h.set k1 (.inl (k, cpL f g sp.toNatClampNeg dp.toNatClampNeg n.toNatClampNeg))) (H.setIfInBounds (G.2.2.1 + k1) cell1) := by
    refine WdO_set hW ha1 ?_ (by simp) oq
    show (H.setIfInBounds (G.2.2.1 + k1) cell1)[G.2.2.1 + k1]? = some (vp_cell _ _)
    rw [show (H.setIfInBounds (G.2.2.1 + k1) cell1)[G.2.2.1 + k1]? = some cell1 by simp [Array.getElem?_setIfInBounds, hl], ← hcell, cpL_len]
    rw [show (va_cpy (fun i => f.getD i 0) (fun i => g.getD i 0) sp.toNatClampNeg dp.toNatClampNeg n.toNatClampNeg) = (fun i => (cpL f g sp.toNatClampNeg dp.toNatClampNeg n.toNatClampNeg).getD i 0) from funext (fun j => (cpL_at _ _ _ _ _ h5 j).symm)]
  obtain ⟨t, a1, b1⟩ := kk _ _ hw ⟨by simp; exact hS.1, fun q g1 g2 => by
      rw [oq q (fun e => g2 (by rw [e]; exact Nat.le_add_right _ _))]
      exact hS.2.1 q g1 g2, fun q hq => by
      rcases List.mem_append.mp hq with h | h
      · exact hS.2.2 q h
      · obtain ⟨z, -, hz⟩ := List.mem_map.mp h
        rw [← hz]
        exact Nat.le_add_right _ _⟩ _ hheap X'
  exact ⟨t, step t a1, b1⟩
theorem sm_clone (hx : p.tables.exec = Jvm.exec) (hb : c.code = cc) (hml : c.maxLocals = ls.size) {own : String} {index : Nat} (hown : s.vm.findClass own = some m.cls)
    (hlink : (Cond.methodLink own index ⟨"[I", "clone", "()Ljava/lang/Object;"⟩).before args s = true) (hts : ∀ w ∈ tblG, w.before args s = true) (hcl : va_Nw (.castable "[I" "java/lang/Cloneable") s)
    (hK : va_K G.1 vwCl (tysO G) s) (hW : WdO G h H) (hS : va_S (AbA G) s.heap H locs) {k0 : Nat} {f : List Int32} (ha0 : h[k0]? = some (.inl (0, f)))
    (hframes : 1 ≤ R.frames) (hlocals : (rest.map fun v => v.category).sum + 14 ≤ R.locals) (hcells : cells + 1 ≤ R.cells) (hslots : slots + f.length ≤ R.slots) (hdg : decode cc pc = .ok (.invokevirtual index, 3))
    (kk : ∀ (H1 : Heap), WdO G (h ++ [.inl (0, f)]) H1 → va_S (AbA G) s.heap H1 locs → W p l e R s m args below meth c H1 locs (cells + 1) (slots + f.length) Q (F0 m (pc + 3) ls (.ref (G.2.2.1 + h.length) :: rest))) : W p l e R s m args below meth c H locs cells slots Q (F0 m pc ls (.ref (G.2.2.1 + k0) :: rest)) := by
  rw [← hW.1] at kk
  have hnm : s.vm.findClass "[I" = some (G.2.1 0) := va_nm_int (hK.2 0 _ rfl).2
  obtain ⟨c0, t0', f1, f2, f3⟩ := Cond.castable_spec (va_Nw.use (A := args) rfl hcl)
  cases hnm.symm.trans f1
  intro T hT X
  have hcellT : T.heap[G.2.2.1 + k0]? = some (vp_cell (G.2.1 0) (f.length, .inl (fun i => f.getD i 0))) := by rw [hT]; exact hW.2 k0 _ (wsO_some ha0)
  obtain ⟨-, kA, hkA, comp, hkind⟩ := State.isArrayOf_alike X.warmed.alike ((hK.2 0 _ rfl).1 0 (fun _ => .null))
  obtain ⟨-, kS, hkS, compS, hkindS⟩ := (hK.2 0 _ rfl).1 0 (fun _ => .null)
  obtain ⟨vm', X', st⟩ := X.cloneArray hx hown hlink (hts _ tw_clone.1) (hts _ tw_clone.2.1) (hts _ tw_clone.2.2.1) (hts _ tw_clone.2.2.2) (a := G.2.2.1 + k0) (cell := vp_cell (G.2.1 0) (f.length, .inl (fun i => f.getD i 0))) hcellT (fun k h => by cases h) (fun h => by cases h) hnm f2 f3
    (fun i v hv => by
      have hk' : T.vm.classes[G.2.1 0]? = some kA := hkA
      have h9 : fits .int v = true := va_fit (fun i _ => rfl) i v hv
      show T.fitsSlot (G.2.1 0) _ i v = true
      simpa [State.fitsSlot, State.slotType?, hk', hkind] using h9)
    (g := F0 m pc ls (.ref (G.2.2.1 + k0) :: rest)) rfl (by rw [hml]) rfl (by rw [hb]; exact hdg) hframes (by show 2 * 0 + _ + 14 ≤ _; omega) hcells (by show _ + (arrV _ _ _).slots.size ≤ _; rw [arrV_size]; exact hslots) (hloader := Vm.clonesLoader_of_array hkS hkindS)
  rw [show (vp_cell (G.2.1 0) (f.length, .inl (fun i => f.getD i 0))).slots.size = f.length from arrV_size _ _ _] at X'
  generalize hH1 : H.push (vp_cell (G.2.1 0) (f.length, .inl (fun i => f.getD i 0))) = H1
  have z1 : H1.size = H.size + 1 := by rw [← hH1, Array.size_push]
  have e1 : H1[H.size]? = some (vp_cell (G.2.1 0) (f.length, .inl (fun i => f.getD i 0))) := by rw [← hH1, Array.getElem?_push_size]
  have o1 : ∀ q : Nat, q < H.size → H1[q]? = H[q]? := fun q hq => by rw [← hH1, Array.getElem?_push, if_neg (Nat.ne_of_lt hq)]
  obtain ⟨t, b1, b2⟩ := kk H1 (WdO_push hW (by rw [← hW.1]; exact e1) z1 o1) (sm_grow hS z1 o1) ((T.setVm vm').pushCell (vp_cell (G.2.1 0) (f.length, .inl (fun i => f.getD i 0)))) (by rw [← hH1, ← hT]; rfl) X'
  refine ⟨t, st t ?_, b2⟩
  rw [hT]
  exact b1
end ROWS2
end
section
/-! ONE INSTRUCTION OF THE SMALL MACHINE IS ONE OF THE MACHINE -/
noncomputable def wsM (y : Nat) : List Cond := .code (mNm y) (mCd y) (mMx y) (mRt y) :: tblG
def rmM (d mc ms : Nat) : Room := { frames := d, cells := mc, slots := ms, locals := 64 * d }
def PcM (G : AG) (xs : List Int32) (args : List Value) (h : AH) : Array Value → State → Prop := va_Pc (args.map (cv G)) (fun U => WdO G h U.heap ∧ Am G xs U)
def QcM (G : AG) (Q : QT) : Array Value → State → Outcome → State → Prop := fun _ st oc t => (∃ r h', oc = .returned (r.map (cv G)) ∧ Q r h' ∧ WdO G h' t.heap) ∧ va_F (AbA G) st t
theorem PcM_blind {G : AG} {xs : List Int32} {args : List Value} {h : AH} : FrameBlind (PcM G xs args h) := by
  rintro a U g mk ⟨h1, h2, h3⟩
  exact ⟨h1, h2, h3.same rfl rfl⟩
theorem tblG_good : GoodIn tblG tblG := fun w hw => ⟨hw, good_of_word (List.mem_filter.mp hw).2⟩
theorem wsM_good {y : Nat} (h : y < 190) : GoodIn tblG (wsM y) := fun w hw => by
  rcases List.mem_cons.mp hw with rfl | hw
  · exact tblG_good _ (cw_in h)
  · exact tblG_good w hw
theorem goodIn_c {big : List Cond} {w : Cond} {ws : List Cond} (h1 : w ∈ big ∧ goodWord w = true) (h2 : GoodIn big ws) : GoodIn big (w :: ws) := fun x hx => by
  rcases List.mem_cons.mp hx with rfl | hx
  · exact ⟨h1.1, good_of_word h1.2⟩
  · exact h2 x hx
theorem tblG_w {w : Cond} (h : w ∈ tblG) : w ∈ tblG ∧ goodWord w = true := ⟨h, (List.mem_filter.mp h).2⟩
/-- what okM says -/
theorem okM_e {y : Nat} (h : y < 190) : (mFl y = 0 → Cond.static (mNm y) ∈ tblG) ∧ (mFl y ≠ 0 → Cond.instanceMethod (mNm y) ∈ tblG) ∧ (mFl y = 1 → Cond.selects (mNm y).cls (mNm y) (mNm y) ∈ tblG) ∧ Cond.initialized (mNm y).cls ∈ tblG ∧ (mNm y).cls = clsN (mCn y) ∧ (parseMethodDescriptor (mNm y).desc).map (fun d => d.parameters.length) = some (mNa y) ∧ mMx y ≤ 45 ∧ (mFl y = 2 → (mNm y).name = "<init>" ∧ mRt y = none) ∧ (mNm y).cls ≠ "java/lang/invoke/MethodHandle" ∧ (mNm y).cls ≠ "java/lang/invoke/VarHandle" ∧ plainName (mNm y).cls = true := by
  have h1 := okM_all h
  unfold okM at h1
  simp only [Bool.and_eq_true, decide_eq_true_eq] at h1
  obtain ⟨⟨⟨⟨⟨⟨⟨⟨⟨a1, a2⟩, a3⟩, a4⟩, a5⟩, a6⟩, a7⟩, a8⟩, a9⟩, a10⟩ := h1
  refine ⟨fun q => ?_, fun q => ?_, fun q => ?_, inT_e a3, a4, a5, a6, fun q => ?_, a8, a9, a10⟩
  · rw [if_pos q] at a1
    exact inT_e a1
  · rw [if_neg q] at a1
    exact inT_e a1
  · rw [if_pos q] at a2
    exact inT_e a2
  · rw [if_pos q] at a7
    simpa using a7
theorem roL_inr {xs : List Int32} {p k : Nat} {fs : List Value} (h : (roL xs)[p]? = some (.inr (k, fs))) : k = 60 := by
  have h1 := List.mem_of_getElem? h
  simp only [roL, List.mem_cons, List.not_mem_nil, or_false, Sum.inr.injEq, Prod.mk.injEq, reduceCtorEq, false_or] at h1
  omega
theorem roL_k {xs : List Int32} {p k : Nat} {f : List Int32} (h : (roL xs)[p]? = some (.inl (k, f))) : k = 0 ∨ k = 3 := by
  have h1 := List.mem_of_getElem? h
  simp only [roL, List.mem_cons, List.not_mem_nil, or_false, Sum.inl.injEq, Prod.mk.injEq, reduceCtorEq, false_or] at h1
  omega
section STP
variable {p : Program} {l : Launch} {e : Env} {R : Room} {s : State} {m : MethodId} {args : Array Value} {below : List Frame} {meth : Method} {c : Code} {G : AG} {xs : List Int32} {y d : Nat} {Z : State → Prop} {call : CT} {Q : QT}
def KW (p : Program) (l : Launch) (e : Env) (R : Room) (s : State) (m : MethodId) (args : Array Value) (below : List Frame) (meth : Method) (c : Code) (G : AG) (y : Nat) (Z : State → Prop) : KT := fun pc L st h mc ms =>
  ∀ (locs : List Loc) (H : Heap) (ls : Array Slot) (cells slots : Nat), WdO G h H → va_S (AbA G) s.heap H locs → lvO G ls (mMx y) L → cells + mc = R.cells → slots + ms = R.slots → W p l e R s m args below meth c H locs cells slots Z (F0 m pc ls (st.map (cv G)))
def EnvM (p : Program) (R : Room) (s : State) (m : MethodId) (args : Array Value) (meth : Method) (c : Code) (G : AG) (xs : List Int32) (y d : Nat) : Prop :=
  p.tables.exec = Jvm.exec ∧ c.code = mCd y ∧ c.maxLocals = mMx y ∧ s.vm.findClass (clsN (mCn y)) = some m.cls ∧ (∀ w ∈ tblG, w.before args s = true) ∧ Am G xs s ∧ (mFl y = 2 → meth.name = "<init>") ∧ G.2.2.1 ≤ s.heap.size ∧ d + 1 ≤ R.frames ∧ 64 * (d + 1) ≤ R.locals
/-- behind a call -/
theorem va_callM {Q' : QT} {H : Heap} {locs : List Loc} {cells slots mc ms pc : Nat} {ls : Array Slot} {rest st0 : List Value} {a : Array Value} (hr : va_Run p l e R s m args below meth c H locs cells slots mc ms (F0 m pc ls st0) rest (QcM G Q' a) (AbA G)) (hS : va_S (AbA G) s.heap H locs)
    (kk : ∀ (r : Option Value) (h' : AH) (H1 : Heap) (locs1 : List Loc), Q' r h' → WdO G h' H1 → va_S (AbA G) s.heap H1 locs1 → W p l e R s m args below meth c H1 locs1 (cells + mc) (slots + ms) Z (F0 m (pc + 3) ls ((r.map (cv G)).toList ++ rest))) : W p l e R s m args below meth c H locs cells slots Z (F0 m pc ls st0) := by
  intro T hT X
  obtain ⟨v, st₀, t, T', L, h0, X', hL, e1, e2, ⟨⟨r, h', hv, hq, hw⟩, hz, hk⟩, st⟩ := hr T hT X
  cases hv
  rw [h0] at hz hk
  obtain ⟨t2, a1, b1⟩ := kk r h' T'.heap (locs ++ L) hq (by rw [e1]; exact hw)
    ⟨Nat.le_trans hS.1 (by rw [e1]; exact hz), fun q h1 h2 => by rw [e1, hk q (Nat.lt_of_lt_of_le h1 hS.1) h2]; exact hS.2.1 q h1 h2, fun q hq => by
      rcases List.mem_append.mp hq with h | h
      · exact hS.2.2 q h
      · exact hL q h⟩ T' rfl X'
  exact ⟨t2, st t2 a1, b1⟩
theorem preS_M {h : AH} {H : Heap} {locs : List Loc} {as : List Value} (hAm : Am G xs s) (hW : WdO G h H) (hS : va_S (AbA G) s.heap H locs) : PreS s H (PcM G xs as h) (as.map (cv G)) :=
  ⟨PcM_blind, fun U hU hWm => ⟨rfl, by rw [hU]; exact hW, hAm.warm hWm (fun a h1 h2 => by rw [hU]; exact hS.2.1 a h1 h2)⟩⟩
/-- a call of the small machine is one of the machine's -/
def CallOk (l : Launch) (G : AG) (xs : List Int32) (d : Nat) (call : CT) : Prop := ∀ (a mc ms : Nat) (as : List Value) (h : AH) (Q : QT), a < 190 → call a mc ms as h Q → Met l (mNm a) (wsM a) (rmM d mc ms) (PcM G xs as h) (QcM G Q) mc ms (AbA G)
theorem mapr_l (r : Option Value) (st : List Value) : (r.map (cv G)).toList ++ st.map (cv G) = (r.toList ++ st).map (cv G) := by cases r <;> rfl
theorem td_map (st : List Value) (b : Nat) : st.map (cv G) = (((st.take b).reverse).map (cv G)).reverse ++ (st.drop b).map (cv G) := by
  rw [← List.map_reverse, List.reverse_reverse, ← List.map_append, List.take_append_drop]
theorem td_len {st : List Value} {b : Nat} (h : b ≤ st.length) : (((st.take b).reverse).map (cv G)).length = b := by
  rw [List.length_map, List.length_reverse, List.length_take]
  omega
set_option maxHeartbeats 1000000 in
theorem W_static (E : EnvM p R s m args meth c G xs y d) (hcall : CallOk l G xs d call) {pc k a b : Nat} {L : LoS} {st : List Value} {h : AH} {mc ms : Nat} {locs : List Loc} {H : Heap} {ls : Array Slot} {cells slots : Nat} (hW : WdO G h H) (hS : va_S (AbA G) s.heap H locs) (hL : lvO G ls (mMx y) L) (hc : cells + mc = R.cells) (hsl : slots + ms = R.slots)
    (hd : decode (mCd y) pc = .ok (.invokestatic k, 3)) (ha : a < 190) (hb' : b = mNa a) (hfl : mFl a = 0) (hk : (mCn y, k, a, 0) ∈ MLl ∨ (mCn y, k, a, 1) ∈ NLl)
    (hs : b ≤ st.length ∧ cal call (fun s' h mc ms => KW p l e R s m args below meth c G y Z (pc + 3) L s' h mc ms) a (st.take b).reverse (st.drop b) h mc ms) : W p l e R s m args below meth c H locs cells slots Z (F0 m pc ls (st.map (cv G))) := by
  obtain ⟨hx, hb, hml, hown, hts, hAm, hin2, hbs, hf, hlo⟩ := E
  obtain ⟨hlen, hcat, mc', ms', g1, g2, hq⟩ := hs
  obtain ⟨o1, o2, o3, o4, o5, o6, o7, o8, o9, o10, o11⟩ := okM_e ha
  obtain ⟨Q', hQ'⟩ : ∃ Q' : QT, Q' = (fun r h' => KW p l e R s m args below meth c G y Z (pc + 3) L (r.toList ++ st.drop b) h' (mc - mc') (ms - ms')) := ⟨_, rfl⟩
  have hM : Met l (mNm a) (wsM a) (rmM d mc' ms') (PcM G xs (st.take b).reverse h) (QcM G Q') mc' ms' (AbA G) := by
    rw [hQ']
    exact hcall a mc' ms' _ h _ ha hq
  have hR : (rmM d mc' ms').frames + 1 ≤ R.frames ∧ 8 + (mMx a + 11) + (rmM d mc' ms').locals ≤ R.locals := by
    constructor
    · exact hf
    · show 8 + (mMx a + 11) + 64 * d ≤ R.locals
      omega
  have run : va_Run p l e R s m args below meth c H locs cells slots mc' ms' (F0 m pc ls (st.map (cv G))) ((st.drop b).map (cv G)) (QcM G Q' (((st.take b).reverse).map (cv G)).toArray) (AbA G) := by
    rcases hk with hk | hk
    · exact va_runS ⟨hx, hb, hml, hown, hts⟩ hM (va_cwS b hts (goodIn_c (tblG_w (ML_w _ hk)) (goodIn_c (tblG_w (o1 hfl)) (goodIn_c (tblG_w o4) (wsM_good ha)))) rfl rfl rfl ⟨o9, o10, by rw [o6, hb']⟩ hR) (preS_M hAm hW hS) rfl (td_len hlen) hL.2.1 (td_map st b) (lv_room (by rw [cat_map]; exact hcat)) hd (by constructor <;> omega)
    · have hnest : va_Nw (.methodLinkNest (clsN (mCn y)) k (mNm a) "LooksServed") s := hAm.2.2.2.2.2.1 (mCn y, k, a, 1) hk
      have cw : va_CN R s args (clsN (mCn y)) k (mNm a) "LooksServed" (mCd a) (mMx a) (mRt a) (wsM a) (rmM d mc' ms') mc' ms' b := va_cnB (ws' := tblG) b hts (wsM_good ha) (by unfold wsM; rfl) (by unfold rmM; rfl) (by unfold rmM; rfl) hnest (hts _ o4) ⟨o9, o10, by rw [o6, hb']⟩ hR
      exact va_runSN (own := clsN (mCn y)) (host := "LooksServed") (bytes := mCd a) (maxL := mMx a) (ret := mRt a) ⟨hx, hb, hml, hown, hts⟩ hM ⟨cw, hts _ (o1 hfl), trivial⟩ (preS_M hAm hW hS) rfl (td_len hlen) hL.2.1 (td_map st b) (lv_room (by rw [cat_map]; exact hcat)) hd (by constructor <;> omega)
  refine va_callM run hS (fun r h' H1 locs1 hq' hW1 hS1 => ?_)
  rw [mapr_l]
  rw [hQ'] at hq'
  exact hq' locs1 H1 ls _ _ hW1 hS1 hL (by omega) (by omega)
set_option maxHeartbeats 1000000 in
theorem W_virtual (E : EnvM p R s m args meth c G xs y d) (hcall : CallOk l G xs d call) {pc k a b : Nat} {L : LoS} {st : List Value} {h : AH} {mc ms : Nat} {locs : List Loc} {H : Heap} {ls : Array Slot} {cells slots : Nat} (hW : WdO G h H) (hS : va_S (AbA G) s.heap H locs) (hL : lvO G ls (mMx y) L) (hc : cells + mc = R.cells) (hsl : slots + ms = R.slots)
    (hd : decode (mCd y) pc = .ok (.invokevirtual k, 3)) (ha : a < 190) (hb' : b = mNa a) (hfl : mFl a = 1) (hk : (mCn y, k, a, 20) ∈ MLl) (hcn : mCn a < 8 ∨ mCn a = 60)
    (hs : b ≤ st.length ∧ pR (st.drop b) (fun q s' => cO xs h q (mCn a) (fun _ => cal call (fun s' h mc ms => KW p l e R s m args below meth c G y Z (pc + 3) L s' h mc ms) a (.ref q :: (st.take b).reverse) s' h mc ms))) : W p l e R s m args below meth c H locs cells slots Z (F0 m pc ls (st.map (cv G))) := by
  obtain ⟨hx, hb, hml, hown, hts, hAm, hin2, hbs, hf, hlo⟩ := E
  obtain ⟨hlen, hs⟩ := hs
  obtain ⟨q, s', hst, hs⟩ := pR_e hs
  obtain ⟨fs, hcell, hcat, mc', ms', g1, g2, hq⟩ := cO_e hs
  obtain ⟨o1, o2, o3, o4, o5, o6, o7, o8, o9, o10, o11⟩ := okM_e ha
  obtain ⟨Q', hQ'⟩ : ∃ Q' : QT, Q' = (fun r h' => KW p l e R s m args below meth c G y Z (pc + 3) L (r.toList ++ s') h' (mc - mc') (ms - ms')) := ⟨_, rfl⟩
  have hM : Met l (mNm a) (wsM a) (rmM d mc' ms') (PcM G xs (.ref q :: (st.take b).reverse) h) (QcM G Q') mc' ms' (AbA G) := by
    rw [hQ']
    exact hcall a mc' ms' _ h _ ha hq
  have hR : (rmM d mc' ms').frames + 1 ≤ R.frames ∧ 8 + (mMx a + 11) + (rmM d mc' ms').locals ≤ R.locals := by
    constructor
    · exact hf
    · show 8 + (mMx a + 11) + 64 * d ≤ R.locals
      omega
  have hrecv : ∃ cellB : Cell, H[plG G q]? = some cellB ∧ cellB.vm.isStatics = false ∧ s.vm.findClass (mNm a).cls = some cellB.cls := by
    rw [o5]
    unfold smC at hcell
    split at hcell
    · rename_i hlt
      have h60 := roL_inr hcell
      rw [h60] at hcell ⊢
      obtain ⟨cell, w1, w2, w3, -⟩ := ((hAm.2.2.1 q fs hcell).1).kept hS.2.1
      exact ⟨cell, by unfold plG; rw [if_pos hlt]; exact w1, w2, w3⟩
    · rename_i hlt
      have hl := wsO_some (G := G) hcell
      rw [ce_obj G fs (by omega)] at hl
      obtain ⟨r, h1, -⟩ := hW.2 _ _ hl
      have h8 : mCn a < 8 := (List.getElem?_eq_some_iff.mp h1).1
      rw [plG_hi G (by omega)]
      exact va_recv hAm.1 hW.2 (vw_at h8) hl
  have hstk : st.map (cv G) = (((st.take b).reverse).map (cv G)).reverse ++ .ref (plG G q) :: s'.map (cv G) := by
    rw [td_map (G := G) st b, hst]
    rfl
  have run : va_Run p l e R s m args below meth c H locs cells slots mc' ms' (F0 m pc ls (st.map (cv G))) (s'.map (cv G)) (QcM G Q' (Value.ref (plG G q) :: ((st.take b).reverse).map (cv G)).toArray) (AbA G) :=
    va_runV (C := (mNm a).cls) ⟨hx, hb, hml, hown, hts⟩ hM (cwV b hts (goodIn_c (tblG_w (ML_w _ hk)) (goodIn_c (tblG_w (o2 (by omega))) (goodIn_c (tblG_w (o3 hfl)) (goodIn_c (tblG_w o4) (wsM_good ha))))) rfl rfl rfl ⟨rfl, o9, o10, by rw [o6, hb']⟩ hR) ⟨PcM_blind, hrecv, (preS_M (as := .ref q :: (st.take b).reverse) hAm hW hS).2⟩ rfl (td_len hlen) hL.2.1 hstk (lv_room (by rw [cat_map]; exact hcat)) hd (by constructor <;> omega)
  refine va_callM run hS (fun r h' H1 locs1 hq' hW1 hS1 => ?_)
  rw [mapr_l]
  rw [hQ'] at hq'
  exact hq' locs1 H1 ls _ _ hW1 hS1 hL (by omega) (by omega)
set_option maxHeartbeats 1000000 in
theorem W_special (E : EnvM p R s m args meth c G xs y d) (hcall : CallOk l G xs d call) {pc k a b : Nat} {L : LoS} {st : List Value} {h : AH} {mc ms : Nat} {locs : List Loc} {H : Heap} {ls : Array Slot} {cells slots : Nat} (hW : WdO G h H) (hS : va_S (AbA G) s.heap H locs) (hL : lvO G ls (mMx y) L) (hc : cells + mc = R.cells) (hsl : slots + ms = R.slots)
    (hd : decode (mCd y) pc = .ok (.invokespecial k, 3)) (ha : a < 190) (hb' : b = mNa a) (hfl : mFl a = 2) (hk : (mCn y, k, a, 10) ∈ MLl ∨ (mCn y, k, a, 11) ∈ NLl)
    (hs : b ≤ st.length ∧ pR (st.drop b) (fun q s' => 32 ≤ q ∧ cal call (fun s' h mc ms => KW p l e R s m args below meth c G y Z (pc + 3) L s' h mc ms) a (.ref q :: (st.take b).reverse) s' h mc ms)) : W p l e R s m args below meth c H locs cells slots Z (F0 m pc ls (st.map (cv G))) := by
  obtain ⟨hx, hb, hml, hown, hts, hAm, hin2, hbs, hf, hlo⟩ := E
  obtain ⟨hlen, hs⟩ := hs
  obtain ⟨q, s', hst, -, hcat, mc', ms', g1, g2, hq⟩ := pR_e hs
  obtain ⟨o1, o2, o3, o4, o5, o6, o7, o8, o9, o10, o11⟩ := okM_e ha
  obtain ⟨Q', hQ'⟩ : ∃ Q' : QT, Q' = (fun r h' => KW p l e R s m args below meth c G y Z (pc + 3) L (r.toList ++ s') h' (mc - mc') (ms - ms')) := ⟨_, rfl⟩
  have hM : Met l (mNm a) (wsM a) (rmM d mc' ms') (PcM G xs (.ref q :: (st.take b).reverse) h) (QcM G Q') mc' ms' (AbA G) := by
    rw [hQ']
    exact hcall a mc' ms' _ h _ ha hq
  have hR : (rmM d mc' ms').frames + 1 ≤ R.frames ∧ 8 + (mMx a + 11) + (rmM d mc' ms').locals ≤ R.locals := by
    constructor
    · exact hf
    · show 8 + (mMx a + 11) + 64 * d ≤ R.locals
      omega
  have hstk : st.map (cv G) = (((st.take b).reverse).map (cv G)).reverse ++ .ref (plG G q) :: s'.map (cv G) := by
    rw [td_map (G := G) st b, hst]
    rfl
  obtain ⟨hnm, hrt⟩ := o8 hfl
  have hws : wsM a = .code (mNm a) (mCd a) (mMx a) none :: tblG := by
    unfold wsM
    rw [hrt]
  have hpre : PreS s H (PcM G xs (.ref q :: (st.take b).reverse) h) (.ref (plG G q) :: ((st.take b).reverse).map (cv G)) := preS_M (as := .ref q :: (st.take b).reverse) hAm hW hS
  have run : va_Run p l e R s m args below meth c H locs cells slots mc' ms' (F0 m pc ls (st.map (cv G))) (s'.map (cv G)) (QcM G Q' (Value.ref (plG G q) :: ((st.take b).reverse).map (cv G)).toArray) (AbA G) := by
    rcases hk with hk | hk
    · exact va_runI ⟨hx, hb, hml, hown, hts⟩ hM (cwI b hts (wsM_good ha) hws rfl rfl (hts _ o4) (hts _ (ML_w _ hk)) (hts _ (o2 (by omega))) hnm ⟨o9, o10, by rw [o6, hb']⟩ hR) hpre rfl (td_len hlen) hL.2.1 hstk (lv_room (by rw [cat_map]; exact hcat)) hd (by constructor <;> omega)
    · have hnest : va_Nw (.methodLinkNest (clsN (mCn y)) k (mNm a) "LooksServed") s := hAm.2.2.2.2.2.1 (mCn y, k, a, 11) hk
      have cw : va_CN R s args (clsN (mCn y)) k (mNm a) "LooksServed" (mCd a) (mMx a) none (wsM a) (rmM d mc' ms') mc' ms' b := va_cnB (ws' := tblG) b hts (wsM_good ha) hws (by unfold rmM; rfl) (by unfold rmM; rfl) hnest (hts _ o4) ⟨o9, o10, by rw [o6, hb']⟩ hR
      exact va_runIN (own := clsN (mCn y)) (host := "LooksServed") (bytes := mCd a) (maxL := mMx a) ⟨hx, hb, hml, hown, hts⟩ hM ⟨cw, hnm, hts _ (o2 (by omega))⟩ hpre rfl (td_len hlen) hL.2.1 hstk (lv_room (by rw [cat_map]; exact hcat)) hd (by constructor <;> omega)
  refine va_callM run hS (fun r h' H1 locs1 hq' hW1 hS1 => ?_)
  rw [mapr_l]
  rw [hQ'] at hq'
  exact hq' locs1 H1 ls _ _ hW1 hS1 hL (by omega) (by omega)
end STP
end
