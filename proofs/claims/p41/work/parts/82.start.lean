section
/-! THE CLAIM OUT OF ONE WALK OF THE LAW'S BODY. Your part is whole_start (and what it stands on); all else here is the same for every law, but numbers. -/
def R_law : String := "LooksServedLaw"
def lw_P (b : Addr) (xs : List Int32) (args : Array Value) (s : State) : Prop := args = #[.ref b] ∧ s.IntsAt b xs ∧ xs.length ≤ 3072 ∧ (Jvm.Cond.and given_1 narrow_1).before args s = true
def lw_Q (_ : Array Value) (s : State) (o : Outcome) (t : State) : Prop := o = .returned (some (.int 1)) ∧ Framed s o t [] 600000 7302250
def lw_Z (below : List Frame) (a : Array Value) (s : State) : State → Prop := fun t => ∃ o, t.status = .running ∧ Ended t below o ∧ lw_Q a s o t
/-- the law's own end, with 1 on the stack, nothing written that was there before, its room as the claim has it -/
theorem lw_ret {p : Program} {l : Launch} {e : Env} {s : State} {m : MethodId} {below : List Frame} {meth : Method} {c : Code} {b : Nat} (hx : p.tables.exec = Jvm.exec) (hb : c.code = code) (hr : meth.sig.returnType = ret) (hlocks : meth.locks = false) {pc : Nat} {H : Heap} {ls : Array Slot} (hdg : decode code pc = .ok (.ireturn, 1)) : W p l e room_1 s m #[Value.ref b] below meth c H [] 600000 7302250 (lw_Z below #[Value.ref b] s) (F0 m pc ls [.int 1]) := by
  intro T hT X
  obtain ⟨fs, hret, hrun, hended, hW, hframe⟩ := X.leave (v := some (.int 1)) (hlocks := hlocks) (fun h => by rw [hr] at h; cases h)
  have hmeth' : T.vm.method? m = some meth := X.method'
  refine ⟨T.setFrames fs, ?_, .returned (some (.int 1)), hrun, hended, rfl, ⟨_, rfl⟩, hW, hframe⟩
  jvm_step X.here [X.here.top, hx, hb, hdg, hmeth', hr, ret, narrow_b1]
  (try refine ⟨rfl, ?_⟩); (try refine ⟨rfl, ?_⟩)
  first | (intro acts; rw [hret _ acts rfl rfl rfl]) | rw [hret _ _ rfl rfl rfl]
  exact Steps.refl _
/-- what holds at the law's entry: the machine, the code, the tables' words (any of lw_tbl by 'hts w (by decide +kernel)'), the script of L ints xs at the cell b, what the Statement gives of the start (any of its parts by flat_of_before) -/
def lw_At (p : Program) (s : State) (m : MethodId) (meth : Method) (c : Code) (b L : Nat) (xs : Nat → Int32) : Prop :=
  p.tables.exec = Jvm.exec ∧ c.code = code ∧ meth.sig.returnType = ret ∧ c.maxLocals = 4 ∧ s.vm.findClass R_law = some m.cls ∧ (∀ w ∈ lw_tbl, w.before #[Value.ref b] s = true) ∧ va_X b L xs s s.heap ∧ b < s.heap.size ∧ meth.locks = false ∧ (Jvm.Cond.and given_1 narrow_1).before #[Value.ref b] s = true
/-! THE START OF THE LAW: what the Statement gives is the picture of what was there -/
abbrev tmS (i : Nat) : Term := .string (clsN ((SRl.getD (if i = 0 then 0 else i + 1) (0, 0, 0)).1)) ((SRl.getD (if i = 0 then 0 else i + 1) (0, 0, 0)).2.1)
def byS : List (List Int32) := [roB 0, roB 1, roB 2, roB 3, roB 4, roB 5, roB 6, roB 7]
def leS : List Nat := [3, 3, 1, 1, 1, 3, 2, 3]
noncomputable def flS : List Cond := flatC (Jvm.Cond.and given_1 narrow_1)
theorem st_1 : ∀ i, i < 8 → Cond.exactly (tmS i) "java/lang/String" ∈ flS := by decide +kernel
theorem st_2 : ∀ i, i < 8 → Cond.eq (.field (tmS i) "java/lang/String" "coder" "B") (.int 0) ∈ flS := by decide +kernel
theorem st_3 : ∀ i, i < 8 → Cond.arrayOf (.field (tmS i) "java/lang/String" "value" "[B") .byte ∈ flS := by decide +kernel
theorem st_4 : ∀ i, i < 8 → Cond.eq (.length (.field (tmS i) "java/lang/String" "value" "[B")) (.int (Int32.ofNat (leS.getD i 0))) ∈ flS := by decide +kernel
theorem st_5 : ∀ i, i < 8 → ∀ j, j < leS.getD i 0 → Cond.eq (.elem (.field (tmS i) "java/lang/String" "value" "[B") (.int (Int32.ofNat j))) (.int ((byS.getD i []).getD j 0)) ∈ flS := by decide +kernel
theorem st_6 : ∀ i, i < 8 → ∀ j, j < 8 → i ≠ j → (Cond.not (Cond.eq (tmS i) (tmS j))) ∈ flS ∨ (Cond.not (Cond.eq (tmS j) (tmS i))) ∈ flS := by decide +kernel
theorem st_7 : Cond.eq (tmS 0) (.string "LooksServed" 124) ∈ flS := by decide +kernel
theorem st_8 : Cond.arrayOf (.static "LooksServed" "ABOVE" "[I") .int ∈ flS ∧ Cond.eq (.length (.static "LooksServed" "ABOVE" "[I")) (.int (Int32.ofNat 7)) ∈ flS ∧ ∀ j, j < 7 → Cond.eq (.elem (.static "LooksServed" "ABOVE" "[I") (.int (Int32.ofNat j))) (.int (([-1, 0, 0, 0, 1, 2, 3] : List Int32).getD j 0)) ∈ flS := by decide +kernel
theorem st_9 : Cond.arrayOf (.static "LooksServed" "BODIES" "[I") .int ∈ flS ∧ Cond.eq (.length (.static "LooksServed" "BODIES" "[I")) (.int (Int32.ofNat 28)) ∈ flS ∧ ∀ j, j < 28 → Cond.eq (.elem (.static "LooksServed" "BODIES" "[I") (.int (Int32.ofNat j))) (.int (roBODIES.getD j 0)) ∈ flS := by decide +kernel
theorem st_10 : Cond.eq (.static "java/lang/String" "COMPACT_STRINGS" "Z") (.int 1) ∈ flS := by decide +kernel
theorem st_11 : Cond.laysStatic "LooksServed" "ABOVE" "[I" ∈ lw_tbl ∧ Cond.laysStatic "LooksServed" "BODIES" "[I" ∈ lw_tbl ∧ Cond.laysStatic "java/lang/String" "COMPACT_STRINGS" "Z" ∈ lw_tbl ∧ Cond.initialized "LooksServed" ∈ lw_tbl ∧ Cond.initialized "java/lang/String" ∈ lw_tbl := by decide +kernel
theorem st_12a : ∀ q ∈ SRl, tXs.getD (q.2.2 - 3) "" ∈ tXs ∧ Cond.stringRef (clsN q.1) q.2.1 (tXs.getD (q.2.2 - 3) "") ∈ lw_tbl := by decide +kernel
theorem st_12 : ∀ q ∈ SRl, ∃ tx ∈ tXs, Cond.stringRef (clsN q.1) q.2.1 tx ∈ lw_tbl := fun q hq => ⟨_, st_12a q hq⟩
theorem st_13 : ∀ q ∈ NLl, Cond.methodLinkNest (clsN q.1) q.2.1 (mNm q.2.2.1) "LooksServed" ∈ lw_tbl := by decide +kernel
theorem st_14 : Cond.arrayOver (.object "LooksServed$Sheet") ∈ lw_tbl ∧ Cond.castable "[I" "java/lang/Cloneable" ∈ lw_tbl := by decide +kernel
theorem st_15a : ∀ ci, ci < 8 → nfT ci ∈ [11, 13, 5, 7, 3, 2, 25] ∧ Cond.instantiable (clsN ci) (nfT ci) ∈ lw_tbl := by decide +kernel
theorem st_15 : ∀ ci, ci < 8 → ∃ n ∈ [11, 13, 5, 7, 3, 2, 25], Cond.instantiable (clsN ci) n ∈ lw_tbl := fun ci h => ⟨_, st_15a ci h⟩
theorem arrC {s : State} {args : Array Value} {ty : FieldType} (h : (Cond.arrayClass ty).before args s = true) : ∃ cA : ClassId, ArrOfT s cA ty ∧ s.vm.findClass ("[" ++ ty.toString) = some cA := by
  obtain ⟨c, k, comp, h1, h2, h3⟩ := Cond.arrayClass_spec h
  exact ⟨c, fun n z => ⟨(fun k h => by cases h), k, h2, comp, h3⟩, h1⟩
set_option maxHeartbeats 1000000 in
theorem law_Am {s : State} {b L : Nat} {xs : Nat → Int32} (hL : L < 2 ^ 31) (hts : ∀ w ∈ lw_tbl, w.before #[Value.ref b] s = true) (hX : va_X b L xs s s.heap) (hbl : b < s.heap.size) (hgv : (Jvm.Cond.and given_1 narrow_1).before #[Value.ref b] s = true) :
    ∃ G : AG, G.2.2.1 = s.heap.size ∧ G.2.2.2 0 = b ∧ Am G ((List.range L).map xs) s := by
  have hs : ∀ w ∈ flS, w.before #[Value.ref b] s = true := flat_of_before _ hgv
  have hA : ∀ a : Nat, a < s.heap.size → ¬ (fun q : Nat => s.heap.size ≤ q) a := fun a h q => absurd h (Nat.not_lt.mpr q)
  have hcl : ∀ ci, ∃ q : ClassId × (Nat → Nat), ci < 8 → u_Kn s (clsN ci) (TT ci) (nfT ci) q.1 q.2 := by
    intro ci
    by_cases h : ci < 8
    · obtain ⟨n, -, hn⟩ := st_15 ci h
      obtain ⟨cC, iS, hk⟩ := u_known (n := n) hts (fun w hw => (ws_0 ci h w hw).1) (hts _ hn)
      exact ⟨(cC, iS), fun _ => hk⟩
    · exact ⟨(0, fun _ => 0), fun q => absurd q h⟩
  let DC : Nat → ClassId × (Nat → Nat) := fun ci => Classical.choose (hcl ci)
  have hDC : ∀ ci, ci < 8 → u_Kn s (clsN ci) (TT ci) (nfT ci) (DC ci).1 (DC ci).2 := fun ci => Classical.choose_spec (hcl ci)
  obtain ⟨cI, hI1, hI2⟩ := arrC (hts _ (List.mem_filter.mp tw_int).1)
  obtain ⟨cB, hB1, hB2⟩ := arrC (hts _ (List.mem_filter.mp tw_bool).1)
  obtain ⟨comp, cS, kS, hS1, -, hS3, hS4, hS5⟩ := Cond.arrayOver_spec (hts _ st_14.1)
  obtain ⟨adK, adV, hvk, hev⟩ := vk_Sof (args := #[Value.ref b]) (s := s) (N := 8) (tm := tmS) (len := leS) (byt := byS) (A := fun q : Nat => s.heap.size ≤ q)
    (fun i hi => by rcases (show i = 0 ∨ i = 1 ∨ i = 2 ∨ i = 3 ∨ i = 4 ∨ i = 5 ∨ i = 6 ∨ i = 7 by omega) with h | h | h | h | h | h | h | h <;> subst h <;> decide)
    (fun i hi => hs _ (st_1 i hi)) (fun i hi => hs _ (st_2 i hi)) (fun i hi => hs _ (st_3 i hi)) (fun i hi => hs _ (st_4 i hi)) (fun i hi j hj => hs _ (st_5 i hi j hj))
    (fun i j hi hj hne => by
      rcases st_6 i hi j hj hne with h | h
      · exact Or.inl (hs _ h)
      · exact Or.inr (hs _ h)) hA
  obtain ⟨aA, hA1, hA2⟩ := va_Tof (A := fun q : Nat => s.heap.size ≤ q) (tm := .static "LooksServed" "ABOVE" "[I") (ty := .int) (N := 7) (f := fun j => .int (([-1, 0, 0, 0, 1, 2, 3] : List Int32).getD j 0)) (by decide) (hs _ st_8.1) (va_eqt (hs _ st_8.2.1)) (fun j hj => va_eqt (hs _ (st_8.2.2 j hj))) hA
  obtain ⟨aB, hB3, hB4⟩ := va_Tof (A := fun q : Nat => s.heap.size ≤ q) (tm := .static "LooksServed" "BODIES" "[I") (ty := .int) (N := 28) (f := fun j => .int (roBODIES.getD j 0)) (by decide) (hs _ st_9.1) (va_eqt (hs _ st_9.2.1)) (fun j hj => va_eqt (hs _ (st_9.2.2 j hj))) hA
  have hscr : va_T .int b L (fun j => .int (((List.range L).map xs).getD j 0)) (fun q : Nat => s.heap.size ≤ q) s s.heap := by
    obtain ⟨scr, h1, h2, h3, h4, h5⟩ := hX
    refine ⟨scr, h1, h2, h3, Nat.le_of_eq h4.symm, by rw [h4], fun j hj => ?_, hA b hbl⟩
    show scr.slots[j]? = some (Value.int (((List.range L).map xs).getD j 0))
    rw [h5 j hj, List.getD_eq_getElem?_getD, List.getElem?_map, List.getElem?_range hj]
    rfl
  refine ⟨((fun k => (DC k).1, fun k => (DC k).2), (fun k => match k with | 0 => cI | 1 => cB | _ => cS), s.heap.size, (fun p => match p with | 0 => b | 1 => aA | 2 => aB | p + 3 => if p < 8 then adK p else adV (p - 8))), rfl, rfl, ⟨fun ci q hq => ?_, fun k q hk => ?_⟩, fun p k l hp => ?_, fun p fs hp => ?_, fun k hk => ?_, fun q hq => ?_, fun q hq => va_Nw.of rfl (hts _ (st_13 q hq)), va_AO.of (hts _ st_14.1), va_Nw.of rfl (hts _ st_14.2)⟩
  · have h8 : ci < 8 := (List.getElem?_eq_some_iff.mp hq).1
    rw [vw_at h8] at hq
    cases hq
    exact hDC ci h8
  · match k, hk with
    | 0, hk => cases hk; exact ⟨hI1, hI2⟩
    | 1, hk => cases hk; exact ⟨hB1, hB2⟩
    | 2, hk =>
      cases hk
      exact ⟨fun N z => ⟨(fun k h => by cases h), kS, hS3, comp, hS4⟩, kS, comp, hS3, hS4, hS1, hS5⟩
    | k + 3, hk => simp [tysO] at hk
  · have hlt : p < 19 := (List.getElem?_eq_some_iff.mp hp).1
    by_cases h11 : p < 11
    · rcases (show p = 0 ∨ p = 1 ∨ p = 2 ∨ p = 3 ∨ p = 4 ∨ p = 5 ∨ p = 6 ∨ p = 7 ∨ p = 8 ∨ p = 9 ∨ p = 10 by omega) with h | h | h | h | h | h | h | h | h | h | h <;> subst h <;> cases hp
      · rw [List.length_map, List.length_range]
        exact hscr
      · exact hA2
      · exact hB4
    · obtain ⟨i, rfl⟩ : ∃ i, p = i + 11 := ⟨p - 11, by omega⟩
      have hi : i < 8 := by omega
      have h9 := (hvk.1 i hi).2.2.2
      have e9 : (if i + 8 < 8 then adK (i + 8) else adV (i + 8 - 8)) = adV i := by
        rw [if_neg (by omega), Nat.add_sub_cancel]
      show va_T (if k = 3 then .byte else .int) (if i + 8 < 8 then adK (i + 8) else adV (i + 8 - 8)) l.length (fun i => .int (l.getD i 0)) _ s s.heap
      rw [e9]
      rcases (show i = 0 ∨ i = 1 ∨ i = 2 ∨ i = 3 ∨ i = 4 ∨ i = 5 ∨ i = 6 ∨ i = 7 by omega) with h | h | h | h | h | h | h | h <;> subst h <;> cases hp <;> exact h9
  · have hlt : p < 19 := (List.getElem?_eq_some_iff.mp hp).1
    by_cases h11 : p < 11
    · by_cases h3 : p < 3
      · rcases (show p = 0 ∨ p = 1 ∨ p = 2 by omega) with h | h | h <;> subst h <;> cases hp
      · obtain ⟨i, rfl⟩ : ∃ i, p = i + 3 := ⟨p - 3, by omega⟩
        have hi : i < 8 := by omega
        obtain ⟨w1, w2, w3, -⟩ := hvk.1 i hi
        have e9 : (if i < 8 then adK i else adV (i - 8)) = adK i := if_pos hi
        show va_O "java/lang/String" (if i < 8 then adK i else adV (i - 8)) _ s s.heap ∧ ∀ b, b < 2 → va_OF "java/lang/String" (sfN b) (sfD b) _ (if i < 8 then adK i else adV (i - 8)) _ s s.heap
        rw [e9]
        refine ⟨w1, fun b hb => ?_⟩
        rcases (show b = 0 ∨ b = 1 by omega) with hb | hb <;> subst hb
        · rcases (show i = 0 ∨ i = 1 ∨ i = 2 ∨ i = 3 ∨ i = 4 ∨ i = 5 ∨ i = 6 ∨ i = 7 by omega) with h | h | h | h | h | h | h | h <;> subst h <;> cases hp <;> exact w3
        · rcases (show i = 0 ∨ i = 1 ∨ i = 2 ∨ i = 3 ∨ i = 4 ∨ i = 5 ∨ i = 6 ∨ i = 7 by omega) with h | h | h | h | h | h | h | h <;> subst h <;> cases hp <;> exact w2
    · rcases (show p = 11 ∨ p = 12 ∨ p = 13 ∨ p = 14 ∨ p = 15 ∨ p = 16 ∨ p = 17 ∨ p = 18 by omega) with h | h | h | h | h | h | h | h <;> subst h <;> cases hp
  · rcases hk with h | h | h <;> subst h
    · exact va_Zref (hts _ st_11.1) (hts _ st_11.2.2.2.1) hA1 hA
    · exact va_Zref (hts _ st_11.2.1) (hts _ st_11.2.2.2.1) hB3 hA
    · exact va_Zof (hts _ st_11.2.2.1) (hts _ st_11.2.2.2.2) (va_eqt (hs _ st_10)) hA
  · obtain ⟨tx, -, ht⟩ := st_12 q hq
    refine ⟨tx, vk_R.of (hts _ ht) ?_⟩
    have he := va_eqR (hs _ st_7) (hev 0 (by decide))
    simp only [SRl, List.mem_cons, List.not_mem_nil, or_false] at hq
    rcases hq with h | h | h | h | h | h | h | h | h <;> subst h
    · exact hev 0 (by decide)
    · exact he
    · exact hev 1 (by decide)
    · exact hev 2 (by decide)
    · exact hev 3 (by decide)
    · exact hev 4 (by decide)
    · exact hev 5 (by decide)
    · exact hev 6 (by decide)
    · exact hev 7 (by decide)
/-- the law's run in the small machine, from its start, comes to its end with 1 -/
def LawRuns : Prop := ∀ xs : List Int32, xs.length ≤ 3072 → WP xs 1300 190 600000 7302250 [.ref 0] [] (fun r _ => r = some (.int 1))
theorem law_md : mCn 190 = 8 ∧ mMx 190 = 4 ∧ mRt 190 = some .boolean ∧ mFl 190 ≠ 2 := by decide +kernel
set_option maxHeartbeats 1000000 in
theorem whole_of (hrun : LawRuns) {p : Program} {e : Env} {s : State} {m : MethodId} {below : List Frame} {meth : Method} {c : Code} (l : Launch) {b L : Nat} {xs : Nat → Int32} (hL : L ≤ 3072) (C0 : lw_At p s m meth c b L xs) : W p l e room_1 s m #[Value.ref b] below meth c s.heap [] 0 0 (lw_Z below #[Value.ref b] s) (entryFrame m ([Value.ref b] : List Value).toArray 4) := by
  obtain ⟨hx, hb, hr, hml, hown, hts, hX, hbl, hlocks, hgv⟩ := C0
  obtain ⟨G, hG1, hG2, hAm⟩ := law_Am (by omega) hts hX hbl hgv
  obtain ⟨hlen, hgw⟩ := hrun ((List.range L).map xs) (by rw [List.length_map, List.length_range]; exact hL)
  have hb' : c.code = mCd 190 := hb
  have hml' : c.maxLocals = mMx 190 := by rw [hml]; exact law_md.2.1.symm
  have E : EnvM p room_1 s m #[Value.ref b] meth c G ((List.range L).map xs) 190 1299 := by
    refine ⟨hx, hb', hml', ?_, fun w hw => hts w (List.mem_filter.mp hw).1, hAm, fun q => absurd q law_md.2.2.2, Nat.le_of_eq hG1, ?_, ?_⟩
    · rw [law_md.1]
      exact hown
    · exact Nat.le_of_ble_eq_true rfl
    · exact Nat.le_of_ble_eq_true rfl
  have hret : RetOk p l e room_1 s m #[Value.ref b] below meth c G 190 (lw_Z below #[Value.ref b] s) (fun r _ => r = some (.int 1)) := by
    refine ⟨fun x h H locs cells slots pc ls hty hq hW hS hc1 hs1 hd => ?_, fun v h H locs cells slots pc ls hty hv hq hW hS hc1 hs1 hd => ?_, fun h H locs cells slots pc ls hty hq hW hS hc1 hs1 hd => ?_⟩
    · cases hq
      refine va_forget (fun q hq => by have := hS.2.2 q hq; rw [← hG1]; exact this) ?_
      refine W.widen (k := 600000) (n := 7302250) hc1 hs1 ?_
      exact lw_ret hx hb hr hlocks hd
    · rcases hv with rfl | ⟨a, rfl⟩ <;> cases hq
    · cases hq
  have hW0 : WdO G [] s.heap := ⟨by rw [hG1]; rfl, fun k q h => by simp [wsO] at h⟩
  have hargs : ([Value.ref b] : List Value) = ([.ref 0] : List Value).map (cv G) := by
    show [Value.ref b] = [Value.ref (plG G 0)]
    rw [plG_lo (by decide), hG2]
  have hent := lvO_entry G (vs := [.ref 0]) (n := mMx 190) hlen
  rw [← hargs] at hent
  have h4 : mMx 190 = 4 := law_md.2.1
  rw [lg_entry_eq]
  have h9 := hgw (KW p l e room_1 s m #[Value.ref b] below meth c G 190 (lw_Z below #[Value.ref b] s))
      (fun pc L st h mc1 ms1 r hr hs => stp_W E (WP_met l G _ 1299) hret hr hs)
      [] s.heap _ 0 0 hW0 va_S.rf hent rfl rfl
  rw [h4] at h9
  exact h9
end
section
theorem law_runs : LawRuns := fun xs h => law_walk xs h
end
