/-! ROWS THAT WRITE OR MAKE A CELL, over the picture: with the heap's size -/
theorem WdO_set {G : AG} {h : AH} {H H1 : Heap} {i : Nat} {c c' : AC} (hW : WdO G h H) (hc : h[i]? = some c) (he : va_at G.1 vwCl (G.2.2.1 + i, ce G c') H1) (z : H1.size = H.size) (oq : ∀ q, q ≠ G.2.2.1 + i → H1[q]? = H[q]?) : WdO G (h.set i c') H1 :=
  ⟨by rw [z, hW.1, List.length_set], by rw [← wsO_set]; exact hW.2.set (wsO_D G h) (wsO_some hc) he oq⟩
theorem WdO_push {G : AG} {h : AH} {H H1 : Heap} {c : AC} (hW : WdO G h H) (he : va_at G.1 vwCl (G.2.2.1 + h.length, ce G c) H1) (z : H1.size = H.size + 1) (oq : ∀ q, q < H.size → H1[q]? = H[q]?) : WdO G (h ++ [c]) H1 := by
  refine ⟨by rw [z, hW.1, List.length_append]; rfl, ?_⟩
  rw [← wsO_push]
  refine va_P.app (hW.2.kept (fun k x hx => oq x.1 ((hW.2 k x hx).lt))) (fun k x hx => ?_)
  have hz : k < 1 := (List.getElem?_eq_some_iff.mp hx).1
  rw [show k = 0 by omega] at hx
  cases hx
  exact he
theorem sm_grow {G : AG} {s : State} {H H1 : Heap} {locs : List Loc} (hS : va_S (AbA G) s.heap H locs) (z : H1.size = H.size + 1) (oq : ∀ q, q < H.size → H1[q]? = H[q]?) : va_S (AbA G) s.heap H1 locs :=
  ⟨Nat.le_trans hS.1 (by omega), fun x h1 h2 => (oq x (Nat.lt_of_lt_of_le h1 hS.1)).trans (hS.2.1 x h1 h2), hS.2.2⟩
theorem gD_set {l : List Int32} {k : Nat} {x : Int32} (hk : k < l.length) (j : Nat) : (l.set k x).getD j 0 = if j = k then x else l.getD j 0 := by
  rw [List.getD_eq_getElem?_getD, List.getD_eq_getElem?_getD, List.getElem?_set]
  by_cases h : k = j
  · subst h
    simp [hk]
  · rw [if_neg h, if_neg (fun q => h q.symm)]
theorem ce_set (G : AG) {H1 : Heap} {a k n : Nat} {l : List Int32} {x : Int32} (hn : n < l.length) (e : H1[a]? = some ((vp_cell (G.2.1 k) (l.length, .inl (fun i => l.getD i 0))).setSlot n (.int x))) : va_at G.1 vwCl (a, ce G (.inl (k, l.set n x))) H1 := by
  show H1[a]? = some (vp_cell _ _)
  rw [e]
  dsimp only
  rw [List.length_set, vp_cell_i, vp_cell_i, arrV_store]
  congr 2
  funext q
  rw [gD_set hn]
  by_cases hq : q = n
  · subst hq
    simp [updV]
  · simp [updV, hq]
section ROWS
variable {p : Program} {l : Launch} {e : Env} {R : Room} {s : State} {m : MethodId} {args : Array Value} {below : List Frame} {meth : Method} {c : Code} {H : Heap} {locs : List Loc} {cells slots : Nat} {Q : State → Prop}
variable {cc : ByteArray} {pc : Nat} {ls : Array Slot} {rest : List Value} {G : AG} {h : AH}
theorem inl_lt {i : Int32} {n : Nat} (h : vp_in i n) : i.toNatClampNeg < n := Nat.not_le.mp fun q => h (Or.inr q)
theorem sm_iast (hx : p.tables.exec = Jvm.exec) (hb : c.code = cc) (hK : va_K G.1 vwCl (tysO G) s) (hW : WdO G h H) (hS : va_S (AbA G) s.heap H locs) {i x : Int32} {k : Nat} {f : List Int32} (hc : h[k]? = some (.inl (0, f))) (hin : vp_in i f.length) (hdg : decode cc pc = .ok (.iastore, 1))
    (kk : ∀ (H1 : Heap) (locs1 : List Loc), WdO G (h.set k (.inl (0, f.set i.toNatClampNeg x))) H1 → va_S (AbA G) s.heap H1 locs1 → W p l e R s m args below meth c H1 locs1 cells slots Q (F0 m (pc + 1) ls rest)) : W p l e R s m args below meth c H locs cells slots Q (F0 m pc ls (.int x :: .int i :: .ref (G.2.2.1 + k) :: rest)) := by
  have ha := wsO_some (G := G) hc
  refine W.iast hx hb (hW.2 k _ ha) ((hK.2 0 _ rfl).1 f.length (fun j => .int (f.getD j 0))) (fun q => by cases q) (by show ¬ (i < 0 ∨ (arrV _ _ _).slots.size ≤ _); rw [arrV_size]; exact hin) rfl rfl hdg fun H1 e z oq => ?_
  exact kk H1 _ (WdO_set hW hc (ce_set G (inl_lt hin) e) z oq) (hS.put z oq (Nat.le_add_right _ _))
theorem nar_b {x : Int32} (h : x = 0 ∨ x = 1) : narrow .boolean (.int x) = .int x := by
  rcases h with h | h <;> subst h <;> decide
theorem sm_zast (hx : p.tables.exec = Jvm.exec) (hb : c.code = cc) (hK : va_K G.1 vwCl (tysO G) s) (hW : WdO G h H) (hS : va_S (AbA G) s.heap H locs) {i x : Int32} {k : Nat} {f : List Int32} (hxx : x = 0 ∨ x = 1) (hc : h[k]? = some (.inl (1, f))) (hin : vp_in i f.length) (hdg : decode cc pc = .ok (.bastore, 1))
    (kk : ∀ (H1 : Heap) (locs1 : List Loc), WdO G (h.set k (.inl (1, f.set i.toNatClampNeg x))) H1 → va_S (AbA G) s.heap H1 locs1 → W p l e R s m args below meth c H1 locs1 cells slots Q (F0 m (pc + 1) ls rest)) : W p l e R s m args below meth c H locs cells slots Q (F0 m pc ls (.int x :: .int i :: .ref (G.2.2.1 + k) :: rest)) := by
  have ha := wsO_some (G := G) hc
  refine W.zast hx hb (hW.2 k _ ha) ((hK.2 1 _ rfl).1 f.length (fun j => .int (f.getD j 0))) (fun q => by cases q) (by show ¬ (i < 0 ∨ (arrV _ _ _).slots.size ≤ _); rw [arrV_size]; exact hin) rfl rfl hdg fun H1 e z oq => ?_
  rw [nar_b hxx] at e
  exact kk H1 _ (WdO_set hW hc (ce_set G (inl_lt hin) e) z oq) (hS.put z oq (Nat.le_add_right _ _))
theorem ce_obj (G : AG) {c : Nat} (fs : List Value) (hc : c ≠ 50) : ce G (.inr (c, fs)) = .inr (c, fs.map (cv G)) := by
  unfold ce
  dsimp only
  rw [if_neg hc]
theorem sm_put {y : Nat} (hx : p.tables.exec = Jvm.exec) (hb : c.code = cc) (hts : ∀ w ∈ tblG, w.before args s = true) (hown : s.vm.findClass (clsN (mCn y)) = some m.cls) (hK : va_K G.1 vwCl (tysO G) s) (hW : WdO G h H) (hS : va_S (AbA G) s.heap H locs) (hin2 : mFl y = 2 → meth.name = "<init>") {k a b index : Nat} {fs : List Value} {v : Value} (ha8 : a < 8) (hbn : b < nfT a) (hc : h[k]? = some (.inr (a, fs))) (hlen : b < fs.length)
    (hlink : wFL (mCn y, index, a, b) ∈ tblG) (hfin : (TT a b).2.2.2 = true → mFl y = 2 ∧ (TT a b).1 = clsN (mCn y)) (hn : narrow (tyT a b) (cv G v) = cv G v) (hfit : fits (tyT a b) (cv G v) = true) (hdg : decode cc pc = .ok (.putfield index, 3))
    (kk : ∀ (H1 : Heap) (locs1 : List Loc), WdO G (h.set k (.inr (a, fs.set b v))) H1 → va_S (AbA G) s.heap H1 locs1 → W p l e R s m args below meth c H1 locs1 cells slots Q (F0 m (pc + 3) ls rest)) : W p l e R s m args below meth c H locs cells slots Q (F0 m pc ls (cv G v :: .ref (G.2.2.1 + k) :: rest)) := by
  have hts' := hts
  have hin := ws_in ha8
  have hty := ty_ok ha8
  have hap := va_apart (own := clsN (mCn y)) hts hin (tyT a) hty (nm_ok ha8) hK (vw_at ha8)
  have ha := wsO_some (G := G) hc
  rw [ce_obj G fs (by omega)] at ha
  obtain ⟨r, h1, cell, q1, q2, q3, q4⟩ := hW.2 k _ ha
  have hr : r = (clsN a, TT a, nfT a) := Option.some.inj (h1.symm.trans (vw_at ha8))
  subst hr
  obtain ⟨hSl, hfc, kC, hkC, hkind⟩ := hK.1 a _ (vw_at ha8)
  obtain ⟨cf, kf, fi, f, hi, hsl⟩ := hSl b hbn
  have hst := (u_facts hfc hkC (u_lays hts hin hbn) hi).1
  have hlay := hts _ (hin _ (u_in_lay hbn))
  unfold u_lay at hlay
  have hlk := hts _ hlink
  have fin : ∀ H' : Heap, H'[G.2.2.1 + k]? = some (cell.setSlot f.slot (cv G v)) → H'.size = H.size → (∀ q, q ≠ G.2.2.1 + k → H'[q]? = H[q]?) → WdO G (h.set k (.inr (a, fs.set b v))) H' ∧ va_S (AbA G) s.heap H' (locs ++ [⟨G.2.2.1 + k, f.slot⟩]) := by
    intro H' e1 e2 e3
    refine ⟨WdO_set hW hc ?_ e2 e3, hS.put e2 e3 (Nat.le_add_right _ _)⟩
    rw [hsl] at e1
    rw [ce_obj G _ (by omega), List.map_set]
    exact ⟨_, vw_at ha8, t_OB.to (V := updV (vp_V (fs.map (cv G))) b (cv G v)) ⟨_, e1, q2, q3, t_set q4 hap hbn (cv G v)⟩ (fun j _ => vp_updV_set (by rw [List.length_map]; exact hlen) (cv G v) j)⟩
  by_cases hf : (TT a b).2.2.2 = true
  · rw [if_pos hf] at hlay
    obtain ⟨g1, g2⟩ := hfin hf
    have hcf : m.cls = cf := by
      obtain ⟨_, _, c', _, _, _, -, -, hf', -, -, -, hown2, -⟩ := Cond.laysFinal_spec hlay
      have e1 : c' = cf := by have := hi.symm.trans hf'; simp at this; exact this.1.symm
      rw [g2] at hown2
      rw [← e1]; exact Option.some.inj (hown.symm.trans hown2)
    have h6 := u_fits hfc hkC hkind (Or.inr hlay) hi (hty b hbn) hn hfit
    refine W.putFinK hx hb hown hlk hi hst hcf (hin2 g1) (by rw [q2]; exact h6) q1 q3 (by rw [hsl]; exact k2_hasslot (q4 b hbn)) rfl rfl hdg fun H' e1 e2 e3 => ?_
    obtain ⟨w1, w2⟩ := fin H' e1 e2 e3
    exact kk H' _ w1 w2
  · rw [if_neg hf] at hlay
    have h6 := u_store hfc hkC hkind hlay hi (hty b hbn) hn hfit
    refine W.putK hx hb (f := f) ⟨hown, hlk, ⟨_, _, _, hi⟩, hst⟩ (by rw [q2]; exact h6) q1 q3 (by rw [hsl]; exact k2_hasslot (q4 b hbn)) rfl rfl hdg fun H' e1 e2 e3 => ?_
    obtain ⟨w1, w2⟩ := fin H' e1 e2 e3
    exact kk H' _ w1 w2
theorem ce_arr (G : AG) (fs : List Value) : ce G (.inr (50, fs)) = .inl (G.2.1 2, fs.length, .inr (.inr (.inr (.inr (fun i => rfo G (fs.getD i .null)))))) := rfl
theorem sm_astq (hx : p.tables.exec = Jvm.exec) (hb : c.code = cc) (hK : va_K G.1 vwCl (tysO G) s) (hW : WdO G h H) (hS : va_S (AbA G) s.heap H locs) {i : Int32} {k q : Nat} {fs gs : List Value} (hq32 : 32 ≤ q) (hc : h[k]? = some (.inr (50, fs))) (hcq : h[q - 32]? = some (.inr (3, gs))) (hin : vp_in i fs.length) (hdg : decode cc pc = .ok (.aastore, 1))
    (kk : ∀ (H1 : Heap) (locs1 : List Loc), WdO G (h.set k (.inr (50, fs.set i.toNatClampNeg (.ref q)))) H1 → va_S (AbA G) s.heap H1 locs1 → W p l e R s m args below meth c H1 locs1 cells slots Q (F0 m (pc + 1) ls rest)) : W p l e R s m args below meth c H locs cells slots Q (F0 m pc ls (.ref (plG G q) :: .int i :: .ref (G.2.2.1 + k) :: rest)) := by
  have hlt := inl_lt hin
  have h0 : ¬ i < 0 := fun q => hin (Or.inl q)
  have ha := wsO_some (G := G) hc
  rw [ce_arr] at ha
  have hv := wsO_some (G := G) hcq
  rw [ce_obj G gs (by decide)] at hv
  rw [plG_hi G hq32]
  obtain ⟨r', hr', cellV, g1, g2, g3, -⟩ := hW.2 _ _ hv
  have hcls := (hK.1 3 _ (vw_at (by decide))).2
  obtain ⟨kA, comp, k1, k2, k3, -⟩ := (hK.2 2 _ rfl).2
  have hcomp : comp = G.1.1 3 := Option.some.inj (k3.symm.trans hcls.1)
  subst hcomp
  obtain ⟨kC, hkC, -⟩ := hcls.2
  refine W.aast hx hb (hW.2 k _ ha) (fun q h => by cases h) (fun h => by cases h) k1 k2 rfl hkC ⟨h0, by show _ < (arrV _ _ _).slots.size; rw [arrV_size]; exact hlt⟩ g1 (fun q h => by rw [g3] at h; cases h) (by rw [g2]; exact hkC) (by rw [g2]; exact va_assign hcls) rfl rfl hdg fun H1 e z oq => ?_
  refine kk H1 _ (WdO_set hW hc ?_ z oq) (hS.put z oq (Nat.le_add_right _ _))
  rw [ce_arr]
  show H1[G.2.2.1 + k]? = some (vp_cell _ _)
  rw [e, List.length_set]
  rw [vp_cell_q, vp_cell_q, arrV_store]
  congr 2
  funext j
  by_cases hq : j = i.toNatClampNeg
  · subst hq
    simp [updV, List.getElem?_set, hlt, rfo, va_rf, plG_hi G hq32]
  · simp [updV, hq, List.getElem?_set, Ne.symm hq]
theorem sm_newa (hx : p.tables.exec = Jvm.exec) (hb : c.code = cc) (hts : ∀ w ∈ tblG, w.before args s = true) (hK : va_K G.1 vwCl (tysO G) s) (hW : WdO G h H) (hS : va_S (AbA G) s.heap H locs) {t : ArrayType} {k : Nat} (ht : (t = .int ∧ k = 0) ∨ (t = .boolean ∧ k = 1)) {n : Int32} (hn : ¬ n < 0) (hN : n.toNatClampNeg ≤ 100000) (hcells : cells + 1 ≤ R.cells) (hslots : slots + n.toNatClampNeg ≤ R.slots) (hdg : decode cc pc = .ok (.newarray t, 2))
    (kk : ∀ (H1 : Heap), WdO G (h ++ [.inl (k, List.replicate n.toNatClampNeg 0)]) H1 → va_S (AbA G) s.heap H1 locs → W p l e R s m args below meth c H1 locs (cells + 1) (slots + n.toNatClampNeg) Q (F0 m (pc + 2) ls (.ref (G.2.2.1 + h.length) :: rest))) : W p l e R s m args below meth c H locs cells slots Q (F0 m pc ls (.int n :: rest)) := by
  rw [← hW.1] at kk
  have hr : ∀ j, (List.replicate n.toNatClampNeg (0 : Int32)).getD j 0 = 0 := fun j => by
    rw [List.getD_eq_getElem?_getD, List.getElem?_replicate]
    split <;> rfl
  rcases ht with ⟨rfl, rfl⟩ | ⟨rfl, rfl⟩
  · refine va_newaK hx hb (atype := .int) (hts _ tw_int) rfl hdg rfl hn rfl (by show n.toNatClampNeg * 4 ≤ 536870912; omega) hcells hslots rfl fun H1 cA e1 z1 o1 hAr hNm => ?_
    refine kk H1 (WdO_push hW ?_ z1 o1) (sm_grow hS z1 o1)
    have hcA : cA = G.2.1 0 := by
      have h2 : s.vm.findClass ("[" ++ FieldType.int.toString) = some (G.2.1 0) := (hK.2 0 _ rfl).2
      exact Option.some.inj (hNm.symm.trans h2)
    subst hcA
    show H1[G.2.2.1 + h.length]? = some (vp_cell _ _)
    rw [← hW.1, e1, vp_cell_i, List.length_replicate]
    congr 2
    funext j
    rw [hr]
    rfl
  · refine va_newaK hx hb (atype := .boolean) (hts _ tw_bool) rfl hdg rfl hn rfl (by show n.toNatClampNeg * 1 ≤ 536870912; omega) hcells hslots rfl fun H1 cA e1 z1 o1 hAr hNm => ?_
    refine kk H1 (WdO_push hW ?_ z1 o1) (sm_grow hS z1 o1)
    have hcA : cA = G.2.1 1 := by
      have h2 : s.vm.findClass ("[" ++ FieldType.boolean.toString) = some (G.2.1 1) := (hK.2 1 _ rfl).2
      exact Option.some.inj (hNm.symm.trans h2)
    subst hcA
    show H1[G.2.2.1 + h.length]? = some (vp_cell _ _)
    rw [← hW.1, e1, vp_cell_i, List.length_replicate]
    congr 2
    funext j
    rw [hr]
    rfl
theorem sm_newq (hx : p.tables.exec = Jvm.exec) (hb : c.code = cc) {own : String} {index : Nat} (hown : s.vm.findClass own = some m.cls) (hlink : (Cond.classLink own index "LooksServed$Sheet").before args s = true) (hover : va_AO "LooksServed$Sheet" s) (hK : va_K G.1 vwCl (tysO G) s) (hW : WdO G h H) (hS : va_S (AbA G) s.heap H locs) {n : Int32} (hn : ¬ n < 0) (hN : n.toNatClampNeg ≤ 100000) (hcells : cells + 1 ≤ R.cells) (hslots : slots + n.toNatClampNeg ≤ R.slots) (hdg : decode cc pc = .ok (.anewarray index, 3))
    (kk : ∀ (H1 : Heap), WdO G (h ++ [.inr (50, List.replicate n.toNatClampNeg .null)]) H1 → va_S (AbA G) s.heap H1 locs → W p l e R s m args below meth c H1 locs (cells + 1) (slots + n.toNatClampNeg) Q (F0 m (pc + 3) ls (.ref (G.2.2.1 + h.length) :: rest))) : W p l e R s m args below meth c H locs cells slots Q (F0 m pc ls (.int n :: rest)) := by
  rw [← hW.1] at kk
  refine W.anew hx hb hown hlink (va_AO.use hover) rfl hdg rfl hn (by omega) hcells hslots fun cA kA comp f1 f2 f3 f4 => ?_
  generalize hH1 : H.push ({ cls := cA, slots := Array.replicate n.toNatClampNeg .null, vm := .none } : Cell) = H1
  have z1 : H1.size = H.size + 1 := by rw [← hH1, Array.size_push]
  have e1 : H1[H.size]? = some (arrV cA n.toNatClampNeg (fun _ => .null)) := by rw [← hH1, Array.getElem?_push_size, ← arrV_new]
  have o1 : ∀ q : Nat, q < H.size → H1[q]? = H[q]? := fun q hq => by rw [← hH1, Array.getElem?_push, if_neg (Nat.ne_of_lt hq)]
  refine kk H1 (WdO_push hW ?_ z1 o1) (sm_grow hS z1 o1)
  obtain ⟨kA', comp', k1, k2, k3, k4⟩ := (hK.2 2 _ rfl).2
  have hcA : cA = G.2.1 2 := Option.some.inj (f1.symm.trans k4)
  subst hcA
  rw [ce_arr]
  show H1[G.2.2.1 + h.length]? = some (vp_cell _ _)
  rw [← hW.1, e1, vp_cell_q, List.length_replicate]
  congr 2
  funext j
  rw [List.getD_eq_getElem?_getD, List.getElem?_replicate]
  split <;> rfl
theorem cv_df (G : AG) (t : FieldType) : cv G (defaultValue t) = defaultValue t := by cases t <;> rfl
theorem sm_new (hx : p.tables.exec = Jvm.exec) (hb : c.code = cc) (hts : ∀ w ∈ tblG, w.before args s = true) {own : String} {index a : Nat} (ha8 : a < 8) (hown : s.vm.findClass own = some m.cls) (hcl : (Cond.classLink own index (clsN a)).before args s = true) (hinst : (Cond.instantiable (clsN a) (nfT a)).before args s = true) (hini : (Cond.initialized (clsN a)).before args s = true) (hK : va_K G.1 vwCl (tysO G) s) (hW : WdO G h H) (hS : va_S (AbA G) s.heap H locs) (hcells : cells + 1 ≤ R.cells) (hslots : slots + nfT a ≤ R.slots) (hdg : decode cc pc = .ok (.new index, 3))
    (kk : ∀ (H1 : Heap), WdO G (h ++ [.inr (a, dfV a (nfT a))]) H1 → va_S (AbA G) s.heap H1 locs → W p l e R s m args below meth c H1 locs (cells + 1) (slots + nfT a) Q (F0 m (pc + 3) ls (.ref (G.2.2.1 + h.length) :: rest))) : W p l e R s m args below meth c H locs cells slots Q (F0 m pc ls rest) := by
  rw [← hW.1] at kk
  have hKn := hK.1 a _ (vw_at ha8)
  refine W.newcK hx hb hown hcl hinst hini rfl hdg hcells hslots hKn.2.1 rfl fun H1 kC hkC e1 z1 o1 => ?_
  refine kk H1 (WdO_push hW ?_ z1 o1) (sm_grow hS z1 o1)
  rw [ce_obj G _ (by omega), ← hW.1]
  refine ⟨_, vw_at ha8, (u_born (tyT a) hts (ws_in ha8) hKn hkC e1 (ty_ok ha8)).to (fun j hj => ?_)⟩
  have hj' : j < nfT a := hj
  unfold vp_V dfV
  rw [List.getD_eq_getElem?_getD, List.getElem?_map, List.getElem?_map, List.getElem?_range hj']
  exact (cv_df G _).symm
end ROWS
