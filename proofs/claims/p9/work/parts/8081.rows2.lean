/-! ROWS OF TWO NATIVE METHODS OVER THE PICTURE: arraycopy of numbers, clone of an int[] -/
theorem cpL_len (f g : List Int32) (sp dp n : Nat) : (cpL f g sp dp n).length = g.length := by
  unfold cpL
  rw [List.length_map, List.length_range]
theorem cpL_at (f g : List Int32) (sp dp n : Nat) (hl : dp + n ≤ g.length) (j : Nat) : (cpL f g sp dp n).getD j 0 = va_cpy (fun i => f.getD i 0) (fun i => g.getD i 0) sp dp n j := by
  unfold cpL
  rw [List.getD_eq_getElem?_getD, List.getElem?_map]
  by_cases hj : j < g.length
  · rw [List.getElem?_range hj]
    rfl
  · rw [List.getElem?_eq_none (by rw [List.length_range]; omega)]
    unfold va_cpy
    rw [if_neg (by omega)]
    show (0 : Int32) = g.getD j 0
    rw [List.getD_eq_getElem?_getD, List.getElem?_eq_none (by omega)]
    rfl
section ROWS2
variable {p : Program} {l : Launch} {e : Env} {R : Room} {s : State} {m : MethodId} {args : Array Value} {below : List Frame} {meth : Method} {c : Code} {H : Heap} {locs : List Loc} {cells slots : Nat} {Q : State → Prop}
variable {cc : ByteArray} {pc : Nat} {ls : Array Slot} {rest : List Value} {G : AG} {h : AH}
theorem sm_copy (hx : p.tables.exec = Jvm.exec) (hb : c.code = cc) (hml : c.maxLocals = ls.size) {own : String} {index : Nat} (hown : s.vm.findClass own = some m.cls) (hlink : (Cond.methodLink own index arraycopyName).before args s = true) (hnat : (Cond.native arraycopyName).before args s = true) (hstat : (Cond.static arraycopyName).before args s = true) (hini : (Cond.initialized "java/lang/System").before args s = true)
    (hK : va_K G.1 vwCl (tysO G) s) (hW : WdO G h H) (hS : va_S (AbA G) s.heap H locs) {k k0 k1 : Nat} {f g : List Int32} (hk : k = 0 ∨ k = 1) (ha0 : h[k0]? = some (.inl (k, f))) (ha1 : h[k1]? = some (.inl (k, g)))
    {sp dp n : Int32} (h1 : ¬ sp < 0) (h2 : ¬ dp < 0) (h3 : ¬ n < 0) (h4 : sp.toNatClampNeg + n.toNatClampNeg ≤ f.length) (h5 : dp.toNatClampNeg + n.toNatClampNeg ≤ g.length) (hfit : k = 1 → ∀ x ∈ f, x = 0 ∨ x = 1)
    (hframes : 1 ≤ R.frames) (hlocals : (rest.map fun v => v.category).sum + (nativeFrameWords "java/lang/System" "arraycopy" 5 + 11) ≤ R.locals) (hdg : decode cc pc = .ok (.invokestatic index, 3))
    (kk : ∀ (H1 : Heap) (locs1 : List Loc), WdO G (h.set k1 (.inl (k, cpL f g sp.toNatClampNeg dp.toNatClampNeg n.toNatClampNeg))) H1 → va_S (AbA G) s.heap H1 locs1 → W p l e R s m args below meth c H1 locs1 cells slots Q (F0 m (pc + 3) ls rest)) : W p l e R s m args below meth c H locs cells slots Q (F0 m pc ls (.int n :: .int dp :: .ref (G.2.2.1 + k1) :: .int sp :: .ref (G.2.2.1 + k0) :: rest)) := by
  have nn : ∀ z : Int32, ¬ z < 0 → z.toInt = (z.toNatClampNeg : Int) := by
    intro z hz
    have hz0 : (0 : Int) ≤ z.toInt := by
      have := Int32.not_lt.mp hz
      simpa using Int32.le_iff_toInt_le.mp this
    show z.toInt = ((z.toInt.toNat : Nat) : Int)
    omega
  obtain ⟨ty, ht, hprim, hft⟩ : ∃ ty : FieldType, (tysO G)[k]? = some (G.2.1 k, ty) ∧ refKind ty = false ∧ ∀ i, i < n.toNatClampNeg → fits ty (.int (f.getD (sp.toNatClampNeg + i) 0)) = true := by
    rcases hk with rfl | rfl
    · exact ⟨.int, rfl, rfl, fun i _ => rfl⟩
    · refine ⟨.boolean, rfl, rfl, fun i hi => ?_⟩
      have hl : sp.toNatClampNeg + i < f.length := by omega
      have hm : f.getD (sp.toNatClampNeg + i) 0 ∈ f := by
        rw [List.getD_eq_getElem?_getD, List.getElem?_eq_getElem hl]
        exact List.getElem_mem hl
      rcases hfit rfl _ hm with e | e <;> rw [e] <;> decide
  intro T hT X
  have hc0 : H[G.2.2.1 + k0]? = some (vp_cell (G.2.1 k) (f.length, .inl (fun i => f.getD i 0))) := hW.2 k0 _ (wsO_some ha0)
  have hc1 : H[G.2.2.1 + k1]? = some (vp_cell (G.2.1 k) (g.length, .inl (fun i => g.getD i 0))) := hW.2 k1 _ (wsO_some ha1)
  obtain ⟨-, kA, hkA, cmA, hkkA⟩ := (hK.2 k _ ht).1 f.length (fun j => .int (f.getD j 0))
  obtain ⟨-, kB, hkB, cmB, hkkB⟩ := (hK.2 k _ ht).1 g.length (fun j => .int (g.getD j 0))
  obtain ⟨vm', X', step⟩ := X.arraycopy hx hown hlink hnat hstat hini (src := G.2.2.1 + k0) (dst := G.2.2.1 + k1) (cs := vp_cell (G.2.1 k) (f.length, .inl (fun i => f.getD i 0))) (cd := vp_cell (G.2.1 k) (g.length, .inl (fun i => g.getD i 0))) (srcPos := sp) (destPos := dp) (n := n) (by rw [hT]; exact hc0) (by rw [hT]; exact hc1)
    (fun _ h => by cases h) (fun _ h => by cases h) (fun h => by cases h) (fun h => by cases h) hkA hkB hkkA hkkB (by simp [hprim]) h1 h2 h3
    (by rw [nn sp h1, nn n h3]; show ¬ _ > ((arrV _ _ _).slots.size : Int); rw [arrV_size]; omega)
    (by rw [nn dp h2, nn n h3]; show ¬ _ > ((arrV _ _ _).slots.size : Int); rw [arrV_size]; omega)
    (fun vm₁ _ i hi => by
      have e : (vp_cell (G.2.1 k) (f.length, .inl (fun i => f.getD i 0))).slots.getD (sp.toNatClampNeg + i) .null = .int (f.getD (sp.toNatClampNeg + i) 0) := by
        show (arrV _ _ (fun j => .int (f.getD j 0))).slots.getD _ _ = _
        rw [Array.getD_eq_getD_getElem?, arrV_read _ _ (by omega)]
        rfl
      refine ⟨?_, ?_⟩
      · rw [e]
        exact hft i hi
      · rw [e]
        exact trivial)
    (g := F0 m pc ls (.int n :: .int dp :: .ref (G.2.2.1 + k1) :: .int sp :: .ref (G.2.2.1 + k0) :: rest)) rfl (by rw [hml]) (rest := rest) rfl (by rw [hb]; exact hdg) hframes (by show 2 * 0 + _ + _ ≤ _; omega)
  have e1 : copied (vp_cell (G.2.1 k) (f.length, .inl (fun i => f.getD i 0))) (vp_cell (G.2.1 k) (g.length, .inl (fun i => g.getD i 0))) sp dp n = vp_cell (G.2.1 k) (g.length, .inl (va_cpy (fun i => f.getD i 0) (fun i => g.getD i 0) sp.toNatClampNeg dp.toNatClampNeg n.toNatClampNeg)) := va_copied (fun z => .int z) (G.2.1 k) (G.2.1 k) (n0 := f.length) (n1 := g.length) (dp := dp.toNatClampNeg) (fun i => f.getD i 0) (fun i => g.getD i 0) h4
  rw [e1] at X' step
  have hl : G.2.2.1 + k1 < H.size := (Array.getElem?_eq_some_iff.mp hc1).1
  generalize hcell : vp_cell (G.2.1 k) (g.length, .inl (va_cpy (fun i => f.getD i 0) (fun i => g.getD i 0) sp.toNatClampNeg dp.toNatClampNeg n.toNatClampNeg)) = cell1 at X' step
  have hheap : ((T.setVm vm').setCell (G.2.2.1 + k1) cell1).heap = H.setIfInBounds (G.2.2.1 + k1) cell1 := by rw [← hT]; rfl
  have oq : ∀ q : Nat, q ≠ G.2.2.1 + k1 → (H.setIfInBounds (G.2.2.1 + k1) cell1)[q]? = H[q]? := fun q hq => by simp [Array.getElem?_setIfInBounds, Ne.symm hq]
  have hw : WdO G (h.set k1 (.inl (k, cpL f g sp.toNatClampNeg dp.toNatClampNeg n.toNatClampNeg))) (H.setIfInBounds (G.2.2.1 + k1) cell1) := by
    refine WdO_set hW ha1 ?_ (by simp) oq
    show (H.setIfInBounds (G.2.2.1 + k1) cell1)[G.2.2.1 + k1]? = some (vp_cell _ _)
    rw [show (H.setIfInBounds (G.2.2.1 + k1) cell1)[G.2.2.1 + k1]? = some cell1 by simp [Array.getElem?_setIfInBounds, hl], ← hcell, cpL_len]
    rw [show (va_cpy (fun i => f.getD i 0) (fun i => g.getD i 0) sp.toNatClampNeg dp.toNatClampNeg n.toNatClampNeg) = (fun i => (cpL f g sp.toNatClampNeg dp.toNatClampNeg n.toNatClampNeg).getD i 0) from funext (fun j => (cpL_at _ _ _ _ _ h5 j).symm)]
  obtain ⟨t, a1, b1⟩ := kk _ _ hw ⟨by simp; exact hS.1, fun q g1 g2 => by
      rw [oq q (fun e => g2 (by rw [e]; exact Nat.le_add_right _ _))]
      exact hS.2.1 q g1 g2, fun q hq => by
      rcases List.mem_append.mp hq with h | h
      · exact hS.2.2 q h
      · obtain ⟨z, -, hz⟩ := List.mem_map.mp h
        rw [← hz]
        exact Nat.le_add_right _ _⟩ _ hheap X'
  exact ⟨t, step t a1, b1⟩
theorem sm_clone (hx : p.tables.exec = Jvm.exec) (hb : c.code = cc) (hml : c.maxLocals = ls.size) {own : String} {index : Nat} (hown : s.vm.findClass own = some m.cls)
    (hlink : (Cond.methodLink own index ⟨"[I", "clone", "()Ljava/lang/Object;"⟩).before args s = true) (hts : ∀ w ∈ tblG, w.before args s = true) (hcl : va_Nw (.castable "[I" "java/lang/Cloneable") s)
    (hK : va_K G.1 vwCl (tysO G) s) (hW : WdO G h H) (hS : va_S (AbA G) s.heap H locs) {k0 : Nat} {f : List Int32} (ha0 : h[k0]? = some (.inl (0, f)))
    (hframes : 1 ≤ R.frames) (hlocals : (rest.map fun v => v.category).sum + 14 ≤ R.locals) (hcells : cells + 1 ≤ R.cells) (hslots : slots + f.length ≤ R.slots) (hdg : decode cc pc = .ok (.invokevirtual index, 3))
    (kk : ∀ (H1 : Heap), WdO G (h ++ [.inl (0, f)]) H1 → va_S (AbA G) s.heap H1 locs → W p l e R s m args below meth c H1 locs (cells + 1) (slots + f.length) Q (F0 m (pc + 3) ls (.ref (G.2.2.1 + h.length) :: rest))) : W p l e R s m args below meth c H locs cells slots Q (F0 m pc ls (.ref (G.2.2.1 + k0) :: rest)) := by
  rw [← hW.1] at kk
  have hnm : s.vm.findClass "[I" = some (G.2.1 0) := va_nm_int (hK.2 0 _ rfl).2
  obtain ⟨c0, t0', f1, f2, f3⟩ := Cond.castable_spec (va_Nw.use (A := args) rfl hcl)
  cases hnm.symm.trans f1
  intro T hT X
  have hcellT : T.heap[G.2.2.1 + k0]? = some (vp_cell (G.2.1 0) (f.length, .inl (fun i => f.getD i 0))) := by rw [hT]; exact hW.2 k0 _ (wsO_some ha0)
  obtain ⟨-, kA, hkA, comp, hkind⟩ := State.isArrayOf_alike X.warmed.alike ((hK.2 0 _ rfl).1 0 (fun _ => .null))
  obtain ⟨-, kS, hkS, compS, hkindS⟩ := (hK.2 0 _ rfl).1 0 (fun _ => .null)
  obtain ⟨vm', X', st⟩ := X.cloneArray hx hown hlink (hts _ tw_clone.1) (hts _ tw_clone.2.1) (hts _ tw_clone.2.2.1) (hts _ tw_clone.2.2.2) (a := G.2.2.1 + k0) (cell := vp_cell (G.2.1 0) (f.length, .inl (fun i => f.getD i 0))) hcellT (fun k h => by cases h) (fun h => by cases h) hnm f2 f3
    (fun i v hv => by
      have hk' : T.vm.classes[G.2.1 0]? = some kA := hkA
      have h9 : fits .int v = true := va_fit (fun i _ => rfl) i v hv
      show T.fitsSlot (G.2.1 0) _ i v = true
      simpa [State.fitsSlot, State.slotType?, hk', hkind] using h9)
    (g := F0 m pc ls (.ref (G.2.2.1 + k0) :: rest)) rfl (by rw [hml]) rfl (by rw [hb]; exact hdg) hframes (by show 2 * 0 + _ + 14 ≤ _; omega) hcells (by show _ + (arrV _ _ _).slots.size ≤ _; rw [arrV_size]; exact hslots) (hloader := Vm.clonesLoader_of_array hkS hkindS)
  rw [show (vp_cell (G.2.1 0) (f.length, .inl (fun i => f.getD i 0))).slots.size = f.length from arrV_size _ _ _] at X'
  generalize hH1 : H.push (vp_cell (G.2.1 0) (f.length, .inl (fun i => f.getD i 0))) = H1
  have z1 : H1.size = H.size + 1 := by rw [← hH1, Array.size_push]
  have e1 : H1[H.size]? = some (vp_cell (G.2.1 0) (f.length, .inl (fun i => f.getD i 0))) := by rw [← hH1, Array.getElem?_push_size]
  have o1 : ∀ q : Nat, q < H.size → H1[q]? = H[q]? := fun q hq => by rw [← hH1, Array.getElem?_push, if_neg (Nat.ne_of_lt hq)]
  obtain ⟨t, b1, b2⟩ := kk H1 (WdO_push hW (by rw [← hW.1]; exact e1) z1 o1) (sm_grow hS z1 o1) ((T.setVm vm').pushCell (vp_cell (G.2.1 0) (f.length, .inl (fun i => f.getD i 0)))) (by rw [← hH1, ← hT]; rfl) X'
  refine ⟨t, st t ?_, b2⟩
  rw [hT]
  exact b1
end ROWS2
