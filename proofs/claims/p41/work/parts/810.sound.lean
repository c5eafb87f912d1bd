section
/-! THE SMALL MACHINE IS SOUND -/
theorem vcn_c : (List.range 190).all (fun y => decide (mFl y = 1 → mCn y < 8 ∨ mCn y = 60)) = true := by decide +kernel
theorem vcn {y : Nat} (h : y < 190) (hf : mFl y = 1) : mCn y < 8 ∨ mCn y = 60 := of_decide_eq_true (List.all_eq_true.mp vcn_c y (List.mem_range.mpr h)) hf
theorem lkO (ps : List (Int × Int)) (d x : Int) : Op.lookupswitch.offset ps d x = d ∨ ∃ q ∈ ps, Op.lookupswitch.offset ps d x = q.2 := by
  induction ps with
  | nil => exact Or.inl (by simp [Op.lookupswitch.offset])
  | cons q ps ih =>
    by_cases hq : q.1 = x
    · exact Or.inr ⟨q, List.mem_cons_self, by simp [Op.lookupswitch.offset, hq]⟩
    · have e : Op.lookupswitch.offset (q :: ps) d x = Op.lookupswitch.offset ps d x := by simp [Op.lookupswitch.offset, hq]
      rw [e]
      rcases ih with ih | ⟨z, hz, ih⟩
      · exact Or.inl ih
      · exact Or.inr ⟨z, List.mem_cons_of_mem _ hz, ih⟩
theorem tgO_eq {pc : Nat} {o : Int} (h : swO pc o = true) : (pc : Int) + o = (tgO pc o : Int) := by
  unfold swO at h
  unfold tgO
  rw [decide_eq_true_eq] at h
  omega
theorem c1V_e {G : AG} {v : Value} (h : c1V v = true) : (cv G v).category = 1 := by cases v <;> first | rfl | cases h
theorem fitV_e {G : AG} {ty : FieldType} {v : Value} (h : fitV ty v) : narrow ty (cv G v) = cv G v ∧ fits ty (cv G v) = true := by
  unfold fitV at h
  split at h
  · exact ⟨rfl, rfl⟩
  · rcases h with h | h <;> subst h <;> exact ⟨rfl, rfl⟩
  · exact ⟨rfl, rfl⟩
  · exact ⟨rfl, rfl⟩
  · exact ⟨rfl, rfl⟩
  · exact ⟨rfl, rfl⟩
  · exact h.elim
theorem rfo_e {G : AG} {u : Value} (h1 : c1V u = true) (h2 : ∀ z, u ≠ .int z) : va_rf (rfo G u) = cv G u := by
  cases u with
  | int z => exact absurd rfl (h2 z)
  | ref a => rfl
  | null => rfl
  | _ => cases h1
section SOUND
variable {p : Program} {l : Launch} {e : Env} {R : Room} {s : State} {m : MethodId} {args : Array Value} {below : List Frame} {meth : Method} {c : Code} {G : AG} {xs : List Int32} {y d : Nat} {Z : State → Prop} {call : CT} {Q : QT}
def RetOk (p : Program) (l : Launch) (e : Env) (R : Room) (s : State) (m : MethodId) (args : Array Value) (below : List Frame) (meth : Method) (c : Code) (G : AG) (y : Nat) (Z : State → Prop) (Q : QT) : Prop :=
  (∀ (x : Int32) (h : AH) (H : Heap) (locs : List Loc) (cells slots pc : Nat) (ls : Array Slot), (mRt y = some .int ∨ (mRt y = some .boolean ∧ (x = 0 ∨ x = 1)) ∨ (mRt y = some .byte ∧ (-128 ≤ x ∧ x ≤ 127))) → Q (some (.int x)) h → WdO G h H → va_S (AbA G) s.heap H locs → cells ≤ R.cells → slots ≤ R.slots → decode (mCd y) pc = .ok (.ireturn, 1) → W p l e R s m args below meth c H locs cells slots Z (F0 m pc ls [.int x])) ∧
  (∀ (v : Value) (h : AH) (H : Heap) (locs : List Loc) (cells slots pc : Nat) (ls : Array Slot), ((∃ n, mRt y = some (.object n)) ∨ ∃ t, mRt y = some (.array t)) → (v = .null ∨ ∃ a, v = .ref a) → Q (some v) h → WdO G h H → va_S (AbA G) s.heap H locs → cells ≤ R.cells → slots ≤ R.slots → decode (mCd y) pc = .ok (.areturn, 1) → W p l e R s m args below meth c H locs cells slots Z (F0 m pc ls [cv G v])) ∧
  (∀ (h : AH) (H : Heap) (locs : List Loc) (cells slots pc : Nat) (ls : Array Slot), mRt y = none → Q none h → WdO G h H → va_S (AbA G) s.heap H locs → cells ≤ R.cells → slots ≤ R.slots → decode (mCd y) pc = .ok (.return_, 1) → W p l e R s m args below meth c H locs cells slots Z (F0 m pc ls []))
theorem smC_hi {h : AH} {q : Nat} {x : AC} (hq : 32 ≤ q) (e : smC xs h q = some x) : h[q - 32]? = some x := by
  unfold smC at e
  rwa [if_neg (by omega)] at e
theorem smC_lo {h : AH} {q : Nat} {x : AC} (hq : q < 32) (e : smC xs h q = some x) : (roL xs)[q]? = some x := by
  unfold smC at e
  rwa [if_pos hq] at e
theorem plG_lo {q : Nat} (hq : q < 32) : plG G q = G.2.2.2 q := by
  unfold plG
  rw [if_pos hq]
set_option maxHeartbeats 8000000 in
set_option maxRecDepth 4000 in
theorem stp_W (E : EnvM p R s m args meth c G xs y d) (hcall : CallOk l G xs d call) (hret : RetOk p l e R s m args below meth c G y Z Q) {r : RI} {pc : Nat} {L : LoS} {st : List Value} {h : AH} {mc ms : Nat} (hr : smI y pc = some r)
    (hs : stp xs call y Q (KW p l e R s m args below meth c G y Z) r pc L st h mc ms) : KW p l e R s m args below meth c G y Z pc L st h mc ms := by
  intro locs H ls cells slots hW hS hL hc hsl
  obtain ⟨hd, ho⟩ := smI_ok hr
  obtain ⟨i, nx, kd, a, b, v⟩ := r
  obtain ⟨hx, hb, hml, hown, hts, hAm, hin2, hbs, hf, hlo⟩ := id E
  obtain ⟨hK, hRO⟩ := id hAm
  dsimp only at hd
  have hlsz : ls.size = c.maxLocals := by rw [hml]; exact hL.2.1
  cases i
  case iconst n =>
    simp only [okR, Bool.and_eq_true, beq_iff_eq, decide_eq_true_eq] at ho
    obtain ⟨rfl, hv⟩ := ho
    rw [Nat.add_sub_cancel_left] at hd
    dsimp only [stp] at hs
    exact lv_iconst hx hb hd hv (hs _ _ _ _ _ hW hS hL hc hsl)
  case bipush n =>
    simp only [okR, Bool.and_eq_true, beq_iff_eq, decide_eq_true_eq] at ho
    obtain ⟨rfl, hv⟩ := ho
    rw [Nat.add_sub_cancel_left] at hd
    dsimp only [stp] at hs
    exact lv_bipush hx hb hd hv (hs _ _ _ _ _ hW hS hL hc hsl)
  case sipush n =>
    simp only [okR, Bool.and_eq_true, beq_iff_eq, decide_eq_true_eq] at ho
    obtain ⟨rfl, hv⟩ := ho
    rw [Nat.add_sub_cancel_left] at hd
    dsimp only [stp] at hs
    exact lv_sipush hx hb hd hv (hs _ _ _ _ _ hW hS hL hc hsl)
  case ldc k =>
    simp only [okR, Bool.and_eq_true, beq_iff_eq] at ho
    obtain ⟨rfl, hv⟩ := ho
    rw [Nat.add_sub_cancel_left] at hd
    dsimp only [stp] at hs
    by_cases ha : a = 0
    · rw [if_pos ha] at hs hv
      exact lv_ldc hx hb hown (hts _ (CO_w (mCn y, k, v) (of_decide_eq_true hv))) hd (hs _ _ _ _ _ hW hS hL hc hsl)
    · rw [if_neg ha] at hs hv
      obtain ⟨tx, ht⟩ := hRO.2.2.2.1 _ (of_decide_eq_true hv)
      exact va_ldcS hx hb hown ht hd (hs _ _ _ _ _ hW hS hL hc hsl)
  case ldc_w k =>
    simp only [okR, Bool.and_eq_true, beq_iff_eq, decide_eq_true_eq] at ho
    obtain ⟨rfl, hv⟩ := ho
    rw [Nat.add_sub_cancel_left] at hd
    dsimp only [stp] at hs
    exact lv_ldcw hx hb hown (hts _ (CO_w (mCn y, k, v) hv)) hd (hs _ _ _ _ _ hW hS hL hc hsl)
  case ldc2_w k =>
    simp only [okR, Bool.and_eq_true, beq_iff_eq, decide_eq_true_eq] at ho
    obtain ⟨rfl, hv⟩ := ho
    rw [Nat.add_sub_cancel_left] at hd
    dsimp only [stp] at hs
    exact lv_ldc2 hx hb hown (hts _ (C2_w (mCn y, k, a) hv)) hd (hs _ _ _ _ _ hW hS hL hc hsl)
  case aconst_null  =>
    simp only [okR, Bool.and_eq_true, beq_iff_eq, decide_eq_true_eq] at ho
    subst ho
    rw [Nat.add_sub_cancel_left] at hd
    dsimp only [stp] at hs
    exact lv_null hx hb hd (hs _ _ _ _ _ hW hS hL hc hsl)
  case iload n =>
    simp only [okR, Bool.and_eq_true, beq_iff_eq, decide_eq_true_eq] at ho
    subst ho
    rw [Nat.add_sub_cancel_left] at hd
    dsimp only [stp] at hs
    have hs0 := gI_e hs
    clear hs
    obtain ⟨x, hx1, hs⟩ := hs0
    exact lv_iload hx hb hd (hL.2.2.2 _ _ hx1) (hs _ _ _ _ _ hW hS hL hc hsl)
  case iload_n n =>
    simp only [okR, Bool.and_eq_true, beq_iff_eq, decide_eq_true_eq] at ho
    subst ho
    rw [Nat.add_sub_cancel_left] at hd
    dsimp only [stp] at hs
    have hs0 := gI_e hs
    clear hs
    obtain ⟨x, hx1, hs⟩ := hs0
    exact lv_iload_n hx hb hd rfl (hL.2.2.2 _ _ hx1) (hs _ _ _ _ _ hW hS hL hc hsl)
  case lload_n n =>
    simp only [okR, Bool.and_eq_true, beq_iff_eq, decide_eq_true_eq] at ho
    subst ho
    rw [Nat.add_sub_cancel_left] at hd
    dsimp only [stp] at hs
    have hs0 := gL_e hs
    clear hs
    obtain ⟨x, hx1, hs⟩ := hs0
    exact lv_lload_n hx hb hd rfl (hL.2.2.2 _ _ hx1) (hs _ _ _ _ _ hW hS hL hc hsl)
  case aload n =>
    simp only [okR, Bool.and_eq_true, beq_iff_eq, decide_eq_true_eq] at ho
    subst ho
    rw [Nat.add_sub_cancel_left] at hd
    dsimp only [stp] at hs
    have hs0 := gA_e hs
    clear hs
    rcases hs0 with ⟨x, hx1, hs⟩ | ⟨hx1, hs⟩
    · exact lv_aload hx hb hd (hL.2.2.2 _ _ hx1) (hs _ _ _ _ _ hW hS hL hc hsl)
    · exact lv_aloadN hx hb hd (hL.2.2.2 _ _ hx1) (hs _ _ _ _ _ hW hS hL hc hsl)
  case aload_n n =>
    simp only [okR, Bool.and_eq_true, beq_iff_eq, decide_eq_true_eq] at ho
    subst ho
    rw [Nat.add_sub_cancel_left] at hd
    dsimp only [stp] at hs
    have hs0 := gA_e hs
    clear hs
    rcases hs0 with ⟨x, hx1, hs⟩ | ⟨hx1, hs⟩
    · exact lv_aload_n hx hb hd rfl (hL.2.2.2 _ _ hx1) (hs _ _ _ _ _ hW hS hL hc hsl)
    · exact lv_aload_nN hx hb hd rfl (hL.2.2.2 _ _ hx1) (hs _ _ _ _ _ hW hS hL hc hsl)
  case istore n =>
    simp only [okR, Bool.and_eq_true, beq_iff_eq, decide_eq_true_eq] at ho
    subst ho
    rw [Nat.add_sub_cancel_left] at hd
    dsimp only [stp] at hs
    have hs0 := pI_e hs
    clear hs
    obtain ⟨x, st', rfl, hs⟩ := hs0
    have hs0 := sL_e hs
    clear hs
    obtain ⟨hk, hs⟩ := hs0
    exact lv_istore hx hb hd (lvO_has hL) (by rw [← hL.1]; exact lvO_lt hk) rfl (fun ls' hl' => hs _ _ _ _ _ hW hS (lvO_set hL hk hl') hc hsl)
  case istore_n n =>
    simp only [okR, Bool.and_eq_true, beq_iff_eq, decide_eq_true_eq] at ho
    subst ho
    rw [Nat.add_sub_cancel_left] at hd
    dsimp only [stp] at hs
    have hs0 := pI_e hs
    clear hs
    obtain ⟨x, st', rfl, hs⟩ := hs0
    have hs0 := sL_e hs
    clear hs
    obtain ⟨hk, hs⟩ := hs0
    exact lv_istore_n hx hb hd rfl (lvO_has hL) (by rw [← hL.1]; exact lvO_lt hk) rfl (fun ls' hl' => hs _ _ _ _ _ hW hS (lvO_set hL hk hl') hc hsl)
  case astore n =>
    simp only [okR, Bool.and_eq_true, beq_iff_eq, decide_eq_true_eq] at ho
    subst ho
    rw [Nat.add_sub_cancel_left] at hd
    dsimp only [stp] at hs
    have hs0 := pR_e hs
    clear hs
    obtain ⟨x, st', rfl, hs⟩ := hs0
    have hs0 := sL_e hs
    clear hs
    obtain ⟨hk, hs⟩ := hs0
    exact lv_astore hx hb hd (lvO_has hL) (by rw [← hL.1]; exact lvO_lt hk) rfl (fun ls' hl' => hs _ _ _ _ _ hW hS (lvO_set hL hk hl') hc hsl)
  case astore_n n =>
    simp only [okR, Bool.and_eq_true, beq_iff_eq, decide_eq_true_eq] at ho
    subst ho
    rw [Nat.add_sub_cancel_left] at hd
    dsimp only [stp] at hs
    have hs0 := pR_e hs
    clear hs
    obtain ⟨x, st', rfl, hs⟩ := hs0
    have hs0 := sL_e hs
    clear hs
    obtain ⟨hk, hs⟩ := hs0
    exact lv_astore_n hx hb hd rfl (lvO_has hL) (by rw [← hL.1]; exact lvO_lt hk) rfl (fun ls' hl' => hs _ _ _ _ _ hW hS (lvO_set hL hk hl') hc hsl)
  case iinc n w =>
    simp only [okR, Bool.and_eq_true, beq_iff_eq, decide_eq_true_eq] at ho
    obtain ⟨rfl, hv⟩ := ho
    rw [Nat.add_sub_cancel_left] at hd
    dsimp only [stp] at hs
    have hs0 := gI_e hs
    clear hs
    obtain ⟨x, hx1, hs⟩ := hs0
    have hs0 := sL_e hs
    clear hs
    obtain ⟨hk, hs⟩ := hs0
    obtain ⟨k, hk'⟩ := List.getElem?_of_mem (prO_mem (G := G) hx1)
    exact lv_iinc hx hb hd (lvO_has hL) hk' (by rw [hv]) (by rw [← hL.1]; exact lvO_lt hk) rfl (fun ls' hl' => hs _ _ _ _ _ hW hS (lvO_set (v := .int (x + v)) hL hk hl') hc hsl)
  case iadd  =>
    simp only [okR, Bool.and_eq_true, beq_iff_eq, decide_eq_true_eq] at ho
    subst ho
    rw [Nat.add_sub_cancel_left] at hd
    dsimp only [stp] at hs
    have hs0 := pI_e hs
    clear hs
    obtain ⟨x2, st', rfl, hs⟩ := hs0
    have hs0 := pI_e hs
    clear hs
    obtain ⟨x1, st2, rfl, hs⟩ := hs0
    exact lv_iadd hx hb hd (hs _ _ _ _ _ hW hS hL hc hsl)
  case isub  =>
    simp only [okR, Bool.and_eq_true, beq_iff_eq, decide_eq_true_eq] at ho
    subst ho
    rw [Nat.add_sub_cancel_left] at hd
    dsimp only [stp] at hs
    have hs0 := pI_e hs
    clear hs
    obtain ⟨x2, st', rfl, hs⟩ := hs0
    have hs0 := pI_e hs
    clear hs
    obtain ⟨x1, st2, rfl, hs⟩ := hs0
    exact lv_isub hx hb hd (hs _ _ _ _ _ hW hS hL hc hsl)
  case imul  =>
    simp only [okR, Bool.and_eq_true, beq_iff_eq, decide_eq_true_eq] at ho
    subst ho
    rw [Nat.add_sub_cancel_left] at hd
    dsimp only [stp] at hs
    have hs0 := pI_e hs
    clear hs
    obtain ⟨x2, st', rfl, hs⟩ := hs0
    have hs0 := pI_e hs
    clear hs
    obtain ⟨x1, st2, rfl, hs⟩ := hs0
    exact lv_imul hx hb hd (hs _ _ _ _ _ hW hS hL hc hsl)
  case iand  =>
    simp only [okR, Bool.and_eq_true, beq_iff_eq, decide_eq_true_eq] at ho
    subst ho
    rw [Nat.add_sub_cancel_left] at hd
    dsimp only [stp] at hs
    have hs0 := pI_e hs
    clear hs
    obtain ⟨x2, st', rfl, hs⟩ := hs0
    have hs0 := pI_e hs
    clear hs
    obtain ⟨x1, st2, rfl, hs⟩ := hs0
    exact lv_iand hx hb hd (hs _ _ _ _ _ hW hS hL hc hsl)
  case ior  =>
    simp only [okR, Bool.and_eq_true, beq_iff_eq, decide_eq_true_eq] at ho
    subst ho
    rw [Nat.add_sub_cancel_left] at hd
    dsimp only [stp] at hs
    have hs0 := pI_e hs
    clear hs
    obtain ⟨x2, st', rfl, hs⟩ := hs0
    have hs0 := pI_e hs
    clear hs
    obtain ⟨x1, st2, rfl, hs⟩ := hs0
    exact lv_ior hx hb hd (hs _ _ _ _ _ hW hS hL hc hsl)
  case ixor  =>
    simp only [okR, Bool.and_eq_true, beq_iff_eq, decide_eq_true_eq] at ho
    subst ho
    rw [Nat.add_sub_cancel_left] at hd
    dsimp only [stp] at hs
    have hs0 := pI_e hs
    clear hs
    obtain ⟨x2, st', rfl, hs⟩ := hs0
    have hs0 := pI_e hs
    clear hs
    obtain ⟨x1, st2, rfl, hs⟩ := hs0
    exact lv_ixor hx hb hd (hs _ _ _ _ _ hW hS hL hc hsl)
  case ishl  =>
    simp only [okR, Bool.and_eq_true, beq_iff_eq, decide_eq_true_eq] at ho
    subst ho
    rw [Nat.add_sub_cancel_left] at hd
    dsimp only [stp] at hs
    have hs0 := pI_e hs
    clear hs
    obtain ⟨x2, st', rfl, hs⟩ := hs0
    have hs0 := pI_e hs
    clear hs
    obtain ⟨x1, st2, rfl, hs⟩ := hs0
    exact lv_ishl hx hb hd (hs _ _ _ _ _ hW hS hL hc hsl)
  case ishr  =>
    simp only [okR, Bool.and_eq_true, beq_iff_eq, decide_eq_true_eq] at ho
    subst ho
    rw [Nat.add_sub_cancel_left] at hd
    dsimp only [stp] at hs
    have hs0 := pI_e hs
    clear hs
    obtain ⟨x2, st', rfl, hs⟩ := hs0
    have hs0 := pI_e hs
    clear hs
    obtain ⟨x1, st2, rfl, hs⟩ := hs0
    exact lv_ishr hx hb hd (hs _ _ _ _ _ hW hS hL hc hsl)
  case idiv  =>
    simp only [okR, Bool.and_eq_true, beq_iff_eq, decide_eq_true_eq] at ho
    subst ho
    rw [Nat.add_sub_cancel_left] at hd
    dsimp only [stp] at hs
    have hs0 := pI_e hs
    clear hs
    obtain ⟨x2, st', rfl, hs⟩ := hs0
    have hs0 := pI_e hs
    clear hs
    obtain ⟨x1, st2, rfl, h0, hs⟩ := hs0
    exact lv_idiv hx hb hd h0 (hs _ _ _ _ _ hW hS hL hc hsl)
  case irem  =>
    simp only [okR, Bool.and_eq_true, beq_iff_eq, decide_eq_true_eq] at ho
    subst ho
    rw [Nat.add_sub_cancel_left] at hd
    dsimp only [stp] at hs
    have hs0 := pI_e hs
    clear hs
    obtain ⟨x2, st', rfl, hs⟩ := hs0
    have hs0 := pI_e hs
    clear hs
    obtain ⟨x1, st2, rfl, h0, hs⟩ := hs0
    exact lv_irem hx hb hd h0 (hs _ _ _ _ _ hW hS hL hc hsl)
  case iushr  =>
    simp only [okR, Bool.and_eq_true, beq_iff_eq, decide_eq_true_eq] at ho
    subst ho
    rw [Nat.add_sub_cancel_left] at hd
    dsimp only [stp] at hs
    have hs0 := pI_e hs
    clear hs
    obtain ⟨x2, st', rfl, hs⟩ := hs0
    have hs0 := pI_e hs
    clear hs
    obtain ⟨x1, st2, rfl, hs⟩ := hs0
    exact lv_iushr hx hb hd rfl (hs _ _ _ _ _ hW hS hL hc hsl)
  case ineg  =>
    simp only [okR, Bool.and_eq_true, beq_iff_eq, decide_eq_true_eq] at ho
    subst ho
    rw [Nat.add_sub_cancel_left] at hd
    dsimp only [stp] at hs
    have hs0 := pI_e hs
    clear hs
    obtain ⟨x1, st2, rfl, hs⟩ := hs0
    exact lv_ineg hx hb hd (hs _ _ _ _ _ hW hS hL hc hsl)
  case i2l  =>
    simp only [okR, Bool.and_eq_true, beq_iff_eq, decide_eq_true_eq] at ho
    subst ho
    rw [Nat.add_sub_cancel_left] at hd
    dsimp only [stp] at hs
    have hs0 := pI_e hs
    clear hs
    obtain ⟨x1, st2, rfl, hs⟩ := hs0
    exact lv_i2l hx hb hd rfl (hs _ _ _ _ _ hW hS hL hc hsl)
  case l2i  =>
    simp only [okR, Bool.and_eq_true, beq_iff_eq, decide_eq_true_eq] at ho
    subst ho
    rw [Nat.add_sub_cancel_left] at hd
    dsimp only [stp] at hs
    have hs0 := pL_e hs
    clear hs
    obtain ⟨x1, st2, rfl, hs⟩ := hs0
    exact lv_l2i hx hb hd rfl (hs _ _ _ _ _ hW hS hL hc hsl)
  case i2b  =>
    simp only [okR, Bool.and_eq_true, beq_iff_eq, decide_eq_true_eq] at ho
    subst ho
    rw [Nat.add_sub_cancel_left] at hd
    dsimp only [stp] at hs
    have hs0 := pI_e hs
    clear hs
    obtain ⟨x1, st2, rfl, hs⟩ := hs0
    exact lv_i2b hx hb hd rfl (hs _ _ _ _ _ hW hS hL hc hsl)
  case i2s  =>
    simp only [okR, Bool.and_eq_true, beq_iff_eq, decide_eq_true_eq] at ho
    subst ho
    rw [Nat.add_sub_cancel_left] at hd
    dsimp only [stp] at hs
    have hs0 := pI_e hs
    clear hs
    obtain ⟨x1, st2, rfl, hs⟩ := hs0
    exact lv_i2s hx hb hd rfl (hs _ _ _ _ _ hW hS hL hc hsl)
  case i2c  =>
    simp only [okR, Bool.and_eq_true, beq_iff_eq, decide_eq_true_eq] at ho
    subst ho
    rw [Nat.add_sub_cancel_left] at hd
    dsimp only [stp] at hs
    have hs0 := pI_e hs
    clear hs
    obtain ⟨x1, st2, rfl, hs⟩ := hs0
    exact lv_i2c hx hb hd rfl (hs _ _ _ _ _ hW hS hL hc hsl)
  case land  =>
    simp only [okR, Bool.and_eq_true, beq_iff_eq, decide_eq_true_eq] at ho
    subst ho
    rw [Nat.add_sub_cancel_left] at hd
    dsimp only [stp] at hs
    have hs0 := pL_e hs
    clear hs
    obtain ⟨x2, st', rfl, hs⟩ := hs0
    have hs0 := pL_e hs
    clear hs
    obtain ⟨x1, st2, rfl, hs⟩ := hs0
    exact lv_land hx hb hd (hs _ _ _ _ _ hW hS hL hc hsl)
  case lor  =>
    simp only [okR, Bool.and_eq_true, beq_iff_eq, decide_eq_true_eq] at ho
    subst ho
    rw [Nat.add_sub_cancel_left] at hd
    dsimp only [stp] at hs
    have hs0 := pL_e hs
    clear hs
    obtain ⟨x2, st', rfl, hs⟩ := hs0
    have hs0 := pL_e hs
    clear hs
    obtain ⟨x1, st2, rfl, hs⟩ := hs0
    exact lv_lor hx hb hd (hs _ _ _ _ _ hW hS hL hc hsl)
  case lshl  =>
    simp only [okR, Bool.and_eq_true, beq_iff_eq, decide_eq_true_eq] at ho
    subst ho
    rw [Nat.add_sub_cancel_left] at hd
    dsimp only [stp] at hs
    have hs0 := pI_e hs
    clear hs
    obtain ⟨x2, st', rfl, hs⟩ := hs0
    have hs0 := pL_e hs
    clear hs
    obtain ⟨x1, st2, rfl, hs⟩ := hs0
    exact lv_lshl hx hb hd rfl (hs _ _ _ _ _ hW hS hL hc hsl)
  case lshr  =>
    simp only [okR, Bool.and_eq_true, beq_iff_eq, decide_eq_true_eq] at ho
    subst ho
    rw [Nat.add_sub_cancel_left] at hd
    dsimp only [stp] at hs
    have hs0 := pI_e hs
    clear hs
    obtain ⟨x2, st', rfl, hs⟩ := hs0
    have hs0 := pL_e hs
    clear hs
    obtain ⟨x1, st2, rfl, hs⟩ := hs0
    exact lv_lshr hx hb hd rfl (hs _ _ _ _ _ hW hS hL hc hsl)
  case lushr  =>
    simp only [okR, Bool.and_eq_true, beq_iff_eq, decide_eq_true_eq] at ho
    subst ho
    rw [Nat.add_sub_cancel_left] at hd
    dsimp only [stp] at hs
    have hs0 := pI_e hs
    clear hs
    obtain ⟨x2, st', rfl, hs⟩ := hs0
    have hs0 := pL_e hs
    clear hs
    obtain ⟨x1, st2, rfl, hs⟩ := hs0
    exact lv_lushr hx hb hd rfl (hs _ _ _ _ _ hW hS hL hc hsl)
  case dup  =>
    simp only [okR, Bool.and_eq_true, beq_iff_eq, decide_eq_true_eq] at ho
    subst ho
    rw [Nat.add_sub_cancel_left] at hd
    dsimp only [stp] at hs
    have hs0 := pV_e hs
    clear hs
    obtain ⟨u, st', rfl, hu, hs⟩ := hs0
    exact lv_dup hx hb hd (c1V_e hu) (hs _ _ _ _ _ hW hS hL hc hsl)
  case pop  =>
    simp only [okR, Bool.and_eq_true, beq_iff_eq, decide_eq_true_eq] at ho
    subst ho
    rw [Nat.add_sub_cancel_left] at hd
    dsimp only [stp] at hs
    have hs0 := pV_e hs
    clear hs
    obtain ⟨u, st', rfl, hu, hs⟩ := hs0
    exact lv_pop hx hb hd (c1V_e hu) (hs _ _ _ _ _ hW hS hL hc hsl)
  case dup2  =>
    simp only [okR, Bool.and_eq_true, beq_iff_eq, decide_eq_true_eq] at ho
    subst ho
    rw [Nat.add_sub_cancel_left] at hd
    dsimp only [stp] at hs
    have hs0 := pV_e hs
    clear hs
    obtain ⟨u, st', rfl, hu, hs⟩ := hs0
    have hs0 := pV_e hs
    clear hs
    obtain ⟨w, st2, rfl, hw, hs⟩ := hs0
    exact lv_dup2_11 hx hb hd (c1V_e hu) (c1V_e hw) (hs _ _ _ _ _ hW hS hL hc hsl)
  case goto o =>
    simp only [okR, Bool.and_eq_true, beq_iff_eq, decide_eq_true_eq] at ho
    obtain ⟨rfl, ht⟩ := ho
    rw [Nat.add_sub_cancel_left] at hd
    dsimp only [stp] at hs
    exact lv_goto hx hb hd ht (hs _ _ _ _ _ hW hS hL hc hsl)
  case ifCond cnd o =>
    simp only [okR, Bool.and_eq_true, beq_iff_eq, decide_eq_true_eq] at ho
    obtain ⟨rfl, ht⟩ := ho
    rw [Nat.add_sub_cancel_left] at hd
    cases cnd
    case eq =>
      dsimp only [stp] at hs
      have hs0 := pI_e hs
      clear hs
      obtain ⟨x1, st2, rfl, hs⟩ := hs0
      exact lv_if_eq hx hb hd ht (fun q => by rw [if_pos q] at hs; exact hs _ _ _ _ _ hW hS hL hc hsl) (fun q => by rw [if_neg q] at hs; exact hs _ _ _ _ _ hW hS hL hc hsl)
    case ne =>
      dsimp only [stp] at hs
      have hs0 := pI_e hs
      clear hs
      obtain ⟨x1, st2, rfl, hs⟩ := hs0
      exact lv_if_ne hx hb hd ht (fun q => by rw [if_neg q] at hs; exact hs _ _ _ _ _ hW hS hL hc hsl) (fun q => by rw [if_pos q] at hs; exact hs _ _ _ _ _ hW hS hL hc hsl)
    case lt =>
      dsimp only [stp] at hs
      have hs0 := pI_e hs
      clear hs
      obtain ⟨x1, st2, rfl, hs⟩ := hs0
      exact lv_if_lt hx hb hd ht (fun q => by rw [if_pos q] at hs; exact hs _ _ _ _ _ hW hS hL hc hsl) (fun q => by rw [if_neg q] at hs; exact hs _ _ _ _ _ hW hS hL hc hsl)
    case ge =>
      dsimp only [stp] at hs
      have hs0 := pI_e hs
      clear hs
      obtain ⟨x1, st2, rfl, hs⟩ := hs0
      exact lv_if_ge hx hb hd ht (fun q => by rw [if_pos q] at hs; exact hs _ _ _ _ _ hW hS hL hc hsl) (fun q => by rw [if_neg q] at hs; exact hs _ _ _ _ _ hW hS hL hc hsl)
    case gt =>
      dsimp only [stp] at hs
      have hs0 := pI_e hs
      clear hs
      obtain ⟨x1, st2, rfl, hs⟩ := hs0
      exact lv_if_gt hx hb hd ht (fun q => by rw [if_pos q] at hs; exact hs _ _ _ _ _ hW hS hL hc hsl) (fun q => by rw [if_neg q] at hs; exact hs _ _ _ _ _ hW hS hL hc hsl)
    case le =>
      dsimp only [stp] at hs
      have hs0 := pI_e hs
      clear hs
      obtain ⟨x1, st2, rfl, hs⟩ := hs0
      exact lv_if_le hx hb hd ht (fun q => by rw [if_pos q] at hs; exact hs _ _ _ _ _ hW hS hL hc hsl) (fun q => by rw [if_neg q] at hs; exact hs _ _ _ _ _ hW hS hL hc hsl)
  case if_icmp cnd o =>
    simp only [okR, Bool.and_eq_true, beq_iff_eq, decide_eq_true_eq] at ho
    obtain ⟨rfl, ht⟩ := ho
    rw [Nat.add_sub_cancel_left] at hd
    cases cnd
    case eq =>
      dsimp only [stp] at hs
      have hs0 := pI_e hs
      clear hs
      obtain ⟨x2, st', rfl, hs⟩ := hs0
      have hs0 := pI_e hs
      clear hs
      obtain ⟨x1, st2, rfl, hs⟩ := hs0
      exact lv_icmp_eq hx hb hd ht (fun q => by rw [if_pos q] at hs; exact hs _ _ _ _ _ hW hS hL hc hsl) (fun q => by rw [if_neg q] at hs; exact hs _ _ _ _ _ hW hS hL hc hsl)
    case ne =>
      dsimp only [stp] at hs
      have hs0 := pI_e hs
      clear hs
      obtain ⟨x2, st', rfl, hs⟩ := hs0
      have hs0 := pI_e hs
      clear hs
      obtain ⟨x1, st2, rfl, hs⟩ := hs0
      exact lv_icmp_ne hx hb hd ht (fun q => by rw [if_neg q] at hs; exact hs _ _ _ _ _ hW hS hL hc hsl) (fun q => by rw [if_pos q] at hs; exact hs _ _ _ _ _ hW hS hL hc hsl)
    case lt =>
      dsimp only [stp] at hs
      have hs0 := pI_e hs
      clear hs
      obtain ⟨x2, st', rfl, hs⟩ := hs0
      have hs0 := pI_e hs
      clear hs
      obtain ⟨x1, st2, rfl, hs⟩ := hs0
      exact lv_icmp_lt hx hb hd ht (fun q => by rw [if_pos q] at hs; exact hs _ _ _ _ _ hW hS hL hc hsl) (fun q => by rw [if_neg q] at hs; exact hs _ _ _ _ _ hW hS hL hc hsl)
    case ge =>
      dsimp only [stp] at hs
      have hs0 := pI_e hs
      clear hs
      obtain ⟨x2, st', rfl, hs⟩ := hs0
      have hs0 := pI_e hs
      clear hs
      obtain ⟨x1, st2, rfl, hs⟩ := hs0
      exact lv_icmp_ge hx hb hd ht (fun q => by rw [if_pos q] at hs; exact hs _ _ _ _ _ hW hS hL hc hsl) (fun q => by rw [if_neg q] at hs; exact hs _ _ _ _ _ hW hS hL hc hsl)
    case gt =>
      dsimp only [stp] at hs
      have hs0 := pI_e hs
      clear hs
      obtain ⟨x2, st', rfl, hs⟩ := hs0
      have hs0 := pI_e hs
      clear hs
      obtain ⟨x1, st2, rfl, hs⟩ := hs0
      exact lv_icmp_gt hx hb hd ht (fun q => by rw [if_pos q] at hs; exact hs _ _ _ _ _ hW hS hL hc hsl) (fun q => by rw [if_neg q] at hs; exact hs _ _ _ _ _ hW hS hL hc hsl)
    case le =>
      dsimp only [stp] at hs
      have hs0 := pI_e hs
      clear hs
      obtain ⟨x2, st', rfl, hs⟩ := hs0
      have hs0 := pI_e hs
      clear hs
      obtain ⟨x1, st2, rfl, hs⟩ := hs0
      exact lv_icmp_le hx hb hd ht (fun q => by rw [if_pos q] at hs; exact hs _ _ _ _ _ hW hS hL hc hsl) (fun q => by rw [if_neg q] at hs; exact hs _ _ _ _ _ hW hS hL hc hsl)
  case ifnull o =>
    simp only [okR, Bool.and_eq_true, beq_iff_eq, decide_eq_true_eq] at ho
    obtain ⟨rfl, ht⟩ := ho
    rw [Nat.add_sub_cancel_left] at hd
    dsimp only [stp] at hs
    split at hs
    · exact lv_ifnullN hx hb hd ht (hs _ _ _ _ _ hW hS hL hc hsl)
    · exact lv_ifnull hx hb hd (hs _ _ _ _ _ hW hS hL hc hsl)
    · exact hs.elim
  case ifnonnull o =>
    simp only [okR, Bool.and_eq_true, beq_iff_eq, decide_eq_true_eq] at ho
    obtain ⟨rfl, ht⟩ := ho
    rw [Nat.add_sub_cancel_left] at hd
    dsimp only [stp] at hs
    split at hs
    · exact lv_ifnonnullN hx hb hd (hs _ _ _ _ _ hW hS hL hc hsl)
    · exact lv_ifnonnull hx hb hd ht (hs _ _ _ _ _ hW hS hL hc hsl)
    · exact hs.elim
  case tableswitch df lo hi offs =>
    dsimp only [stp] at hs
    simp only [okR, Bool.and_eq_true] at ho
    have hs0 := pI_e hs
    clear hs
    obtain ⟨x1, st2, rfl, hs⟩ := hs0
    by_cases hq : x1.toInt < lo ∨ hi < x1.toInt
    · rw [if_pos hq] at hs
      exact lv_tableOut hx hb hd hq (tgO_eq ho.1) (hs _ _ _ _ _ hW hS hL hc hsl)
    · rw [if_neg hq] at hs
      split at hs
      · rename_i w hw
        have h9 : w ∈ offs.toList := List.mem_of_getElem? (by rw [Array.getElem?_toList]; exact hw)
        exact lv_tableIn hx hb hd (fun q => hq (Or.inl q)) (fun q => hq (Or.inr q)) hw (tgO_eq (List.all_eq_true.mp ho.2 w h9)) (hs _ _ _ _ _ hW hS hL hc hsl)
      · exact hs.elim
  case lookupswitch df ps =>
    dsimp only [stp] at hs
    simp only [okR, Bool.and_eq_true] at ho
    have hs0 := pI_e hs
    clear hs
    obtain ⟨x1, st2, rfl, hs⟩ := hs0
    have h9 : swO pc (Op.lookupswitch.offset ps.toList df x1.toInt) = true := by
      rcases lkO ps.toList df x1.toInt with e | ⟨q, hq, e⟩ <;> rw [e]
      · exact ho.1.2
      · exact List.all_eq_true.mp ho.2 q hq
    exact lv_lookup hx hb hd ho.1.1 rfl (tgO_eq h9) (hs _ _ _ _ _ hW hS hL hc hsl)
  case getfield k =>
    dsimp only [stp] at hs
    simp only [okR, Bool.and_eq_true, beq_iff_eq] at ho
    obtain ⟨rfl, hv⟩ := ho
    rw [Nat.add_sub_cancel_left] at hd
    have hs0 := pR_e hs
    clear hs
    obtain ⟨q, st2, rfl, hs⟩ := hs0
    have hs0 := cO_e hs
    clear hs
    obtain ⟨fs, hcell, hs⟩ := hs0
    have hs0 := fO_e hs
    clear hs
    obtain ⟨u, hu, hs⟩ := hs0
    by_cases ha : a = 60
    · subst ha
      rw [if_pos rfl, decide_eq_true_eq] at hv
      by_cases hq : q < 32
      · obtain ⟨w1, w2⟩ := SF_w (mCn y, k, b) hv
        have h9 := (hRO.2.1 q fs (smC_lo hq hcell)).2 b w2
        rw [List.getD_eq_getElem?_getD, hu] at h9
        show W p l e R s m args below meth c H locs cells slots Z (F0 m pc ls (.ref (plG G q) :: st2.map (cv G)))
        rw [plG_lo hq]
        exact vk_getf hx hb h9 hS hown (hts _ w1) (fun x hx => hx) hd (hs _ _ _ _ _ hW hS hL hc hsl)
      · have h8 := smC_hi (Nat.le_of_not_lt hq) hcell
        have hl := wsO_some (G := G) h8
        rw [ce_obj G fs (by decide)] at hl
        obtain ⟨r, h1, -⟩ := hW.2 _ _ hl
        have h7 : 60 < vwCl.length := (List.getElem?_eq_some_iff.mp h1).1
        exact absurd h7 (by decide)
    · rw [if_neg ha, decide_eq_true_eq] at hv
      obtain ⟨w1, w2, w3⟩ := FL_w (mCn y, k, a, b) hv
      have hq : 32 ≤ q := by
        refine Nat.le_of_not_lt (fun hq => ?_)
        exact ha (roL_inr (smC_lo hq hcell))
      have h8 := smC_hi hq hcell
      have hl := wsO_some (G := G) h8
      rw [ce_obj G fs (by dsimp only at w3; omega)] at hl
      show W p l e R s m args below meth c H locs cells slots Z (F0 m pc ls (.ref (plG G q) :: st2.map (cv G)))
      rw [plG_hi G hq]
      exact va_get hx hb hts (ws_in w3) hown hK hW.2 _ hl (vw_at w3) b w2 (hts _ w1) (fun x hx => hx) (by rw [List.getElem?_map, hu]; rfl) hd (hs _ _ _ _ _ hW hS hL hc hsl)
  case putfield k =>
    dsimp only [stp] at hs
    simp only [okR, Bool.and_eq_true, beq_iff_eq, decide_eq_true_eq] at ho
    obtain ⟨⟨rfl, hv⟩, hfi⟩ := ho
    rw [Nat.add_sub_cancel_left] at hd
    have hs0 := pV_e hs
    clear hs
    obtain ⟨u, st1, rfl, hu, hs⟩ := hs0
    have hs0 := pR_e hs
    clear hs
    obtain ⟨q, st2, rfl, hq, hs⟩ := hs0
    have hs0 := cO_e hs
    clear hs
    obtain ⟨fs, hcell, hlen, hfv, hs⟩ := hs0
    obtain ⟨w1, w2, w3⟩ := FL_w (mCn y, k, a, b) hv
    obtain ⟨n1, n2⟩ := fitV_e (G := G) hfv
    show W p l e R s m args below meth c H locs cells slots Z (F0 m pc ls (cv G u :: .ref (plG G q) :: st2.map (cv G)))
    rw [plG_hi G hq]
    exact sm_put hx hb hts hown hK hW hS hin2 w3 w2 (smC_hi hq hcell) hlen w1 (fun q9 => by
      rw [if_pos q9, Bool.and_eq_true, decide_eq_true_eq, decide_eq_true_eq] at hfi
      exact hfi) n1 n2 hd (fun H1 locs1 hW1 hS1 => hs _ _ _ _ _ hW1 hS1 hL hc hsl)
  case getstatic k =>
    simp only [okR, Bool.and_eq_true, beq_iff_eq, decide_eq_true_eq] at ho
    obtain ⟨rfl, hv⟩ := ho
    rw [Nat.add_sub_cancel_left] at hd
    dsimp only [stp] at hs
    obtain ⟨w1, w2⟩ := GS_w (mCn y, k, a) hv
    have h9 := hRO.2.2.1 a w2
    have h8 := va_gets (Q := Z) (rest := st.map (cv G)) (ls := ls) (l := l) (e := e) (R := R) (below := below) (meth := meth) (cells := cells) (slots := slots) hx hb h9 hS hown (hts _ w1) (fun x hx => hx) hd
    exact h8 (hs _ _ _ _ _ hW hS hL hc hsl)
  case iaload  =>
    simp only [okR, Bool.and_eq_true, beq_iff_eq, decide_eq_true_eq] at ho
    subst ho
    rw [Nat.add_sub_cancel_left] at hd
    dsimp only [stp] at hs
    have hs0 := pI_e hs
    clear hs
    obtain ⟨i, st1, rfl, hs⟩ := hs0
    have hs0 := pR_e hs
    clear hs
    obtain ⟨q, st2, rfl, hs⟩ := hs0
    have hs0 := cA_e hs
    clear hs
    obtain ⟨k, f, hcell, rfl, hin, hs⟩ := hs0
    show W p l e R s m args below meth c H locs cells slots Z (F0 m pc ls (.int i :: .ref (plG G q) :: st2.map (cv G)))
    by_cases hq : q < 32
    · rw [plG_lo hq]
      have h9 := hRO.1 q 0 f (smC_lo hq hcell)
      exact va_ti hx hb h9 hS hin rfl hd (hs _ _ _ _ _ hW hS hL hc hsl)
    · rw [plG_hi G (Nat.le_of_not_lt hq)]
      exact va_iald hx hb hK hW.2 _ 0 (wsO_some (smC_hi (Nat.le_of_not_lt hq) hcell)) rfl hin hd (hs _ _ _ _ _ hW hS hL hc hsl)
  case baload  =>
    simp only [okR, Bool.and_eq_true, beq_iff_eq, decide_eq_true_eq] at ho
    subst ho
    rw [Nat.add_sub_cancel_left] at hd
    dsimp only [stp] at hs
    have hs0 := pI_e hs
    clear hs
    obtain ⟨i, st1, rfl, hs⟩ := hs0
    have hs0 := pR_e hs
    clear hs
    obtain ⟨q, st2, rfl, hs⟩ := hs0
    have hs0 := cA_e hs
    clear hs
    obtain ⟨k, f, hcell, hk, hin, hs⟩ := hs0
    show W p l e R s m args below meth c H locs cells slots Z (F0 m pc ls (.int i :: .ref (plG G q) :: st2.map (cv G)))
    rcases hk with ⟨hq, rfl⟩ | ⟨hq, rfl⟩
    · rw [plG_hi G hq]
      exact va_zald hx hb hK hW.2 _ 1 (wsO_some (smC_hi hq hcell)) rfl hin hd (hs _ _ _ _ _ hW hS hL hc hsl)
    · rw [plG_lo hq]
      have h9 := hRO.1 q 3 f (smC_lo hq hcell)
      exact va_tb hx hb h9 hS hin rfl hd (hs _ _ _ _ _ hW hS hL hc hsl)
  case aaload  =>
    simp only [okR, Bool.and_eq_true, beq_iff_eq, decide_eq_true_eq] at ho
    subst ho
    rw [Nat.add_sub_cancel_left] at hd
    dsimp only [stp] at hs
    have hs0 := pI_e hs
    clear hs
    obtain ⟨i, st1, rfl, hs⟩ := hs0
    have hs0 := pR_e hs
    clear hs
    obtain ⟨q, st2, rfl, hq, hs⟩ := hs0
    have hs0 := cO_e hs
    clear hs
    obtain ⟨fs, hcell, hin, hs⟩ := hs0
    have hs0 := fO_e hs
    clear hs
    obtain ⟨u, hu, u1, u2, hs⟩ := hs0
    show W p l e R s m args below meth c H locs cells slots Z (F0 m pc ls (.int i :: .ref (plG G q) :: st2.map (cv G)))
    rw [plG_hi G hq]
    have hl := wsO_some (G := G) (smC_hi hq hcell)
    rw [ce_arr] at hl
    refine va_aldq hx hb hK hW.2 _ 2 hl rfl hin hd ?_
    rw [List.getD_eq_getElem?_getD, hu]
    show W p l e R s m args below meth c H locs cells slots Z (F0 m (pc + 1) ls (va_rf (rfo G u) :: st2.map (cv G)))
    rw [rfo_e u1 u2]
    exact hs _ _ _ _ _ hW hS hL hc hsl
  case iastore  =>
    simp only [okR, Bool.and_eq_true, beq_iff_eq, decide_eq_true_eq] at ho
    subst ho
    rw [Nat.add_sub_cancel_left] at hd
    dsimp only [stp] at hs
    have hs0 := pI_e hs
    clear hs
    obtain ⟨x, st0, rfl, hs⟩ := hs0
    have hs0 := pI_e hs
    clear hs
    obtain ⟨i, st1, rfl, hs⟩ := hs0
    have hs0 := pR_e hs
    clear hs
    obtain ⟨q, st2, rfl, hq, hs⟩ := hs0
    have hs0 := cA_e hs
    clear hs
    obtain ⟨k, f, hcell, rfl, hin, hs⟩ := hs0
    show W p l e R s m args below meth c H locs cells slots Z (F0 m pc ls (.int x :: .int i :: .ref (plG G q) :: st2.map (cv G)))
    rw [plG_hi G hq]
    exact sm_iast hx hb hK hW hS (smC_hi hq hcell) hin hd (fun H1 locs1 hW1 hS1 => hs _ _ _ _ _ hW1 hS1 hL hc hsl)
  case bastore  =>
    simp only [okR, Bool.and_eq_true, beq_iff_eq, decide_eq_true_eq] at ho
    subst ho
    rw [Nat.add_sub_cancel_left] at hd
    dsimp only [stp] at hs
    have hs0 := pI_e hs
    clear hs
    obtain ⟨x, st0, rfl, hs⟩ := hs0
    have hs0 := pI_e hs
    clear hs
    obtain ⟨i, st1, rfl, hs⟩ := hs0
    have hs0 := pR_e hs
    clear hs
    obtain ⟨q, st2, rfl, hq, hxx, hs⟩ := hs0
    have hs0 := cA_e hs
    clear hs
    obtain ⟨k, f, hcell, rfl, hin, hs⟩ := hs0
    show W p l e R s m args below meth c H locs cells slots Z (F0 m pc ls (.int x :: .int i :: .ref (plG G q) :: st2.map (cv G)))
    rw [plG_hi G hq]
    exact sm_zast hx hb hK hW hS hxx (smC_hi hq hcell) hin hd (fun H1 locs1 hW1 hS1 => hs _ _ _ _ _ hW1 hS1 hL hc hsl)
  case aastore  =>
    simp only [okR, Bool.and_eq_true, beq_iff_eq, decide_eq_true_eq] at ho
    subst ho
    rw [Nat.add_sub_cancel_left] at hd
    dsimp only [stp] at hs
    have hs0 := pR_e hs
    clear hs
    obtain ⟨w, st0, rfl, hs⟩ := hs0
    have hs0 := pI_e hs
    clear hs
    obtain ⟨i, st1, rfl, hs⟩ := hs0
    have hs0 := pR_e hs
    clear hs
    obtain ⟨q, st2, rfl, hq, hw, hs⟩ := hs0
    have hs0 := cO_e hs
    clear hs
    obtain ⟨gs, hcellw, hs⟩ := hs0
    have hs0 := cO_e hs
    clear hs
    obtain ⟨fs, hcell, hin, hs⟩ := hs0
    show W p l e R s m args below meth c H locs cells slots Z (F0 m pc ls (.ref (plG G w) :: .int i :: .ref (plG G q) :: st2.map (cv G)))
    rw [plG_hi G hq]
    exact sm_astq hx hb hK hW hS hw (smC_hi hq hcell) (smC_hi hw hcellw) hin hd (fun H1 locs1 hW1 hS1 => hs _ _ _ _ _ hW1 hS1 hL hc hsl)
  case arraylength  =>
    simp only [okR, Bool.and_eq_true, beq_iff_eq, decide_eq_true_eq] at ho
    subst ho
    rw [Nat.add_sub_cancel_left] at hd
    dsimp only [stp] at hs
    have hs0 := pR_e hs
    clear hs
    obtain ⟨q, st2, rfl, hs⟩ := hs0
    have hs0 := cA_e hs
    clear hs
    obtain ⟨k, f, hcell, hk, hs⟩ := hs0
    show W p l e R s m args below meth c H locs cells slots Z (F0 m pc ls (.ref (plG G q) :: st2.map (cv G)))
    by_cases hq : q < 32
    · rw [plG_lo hq]
      have h9 := hRO.1 q k f (smC_lo hq hcell)
      exact va_tlen hx hb h9 hS rfl hd (hs _ _ _ _ _ hW hS hL hc hsl)
    · rw [plG_hi G (Nat.le_of_not_lt hq)]
      rcases hk with rfl | rfl | ⟨hk, -⟩
      · exact va_alen hx hb hK hW.2 _ 0 (wsO_some (smC_hi (Nat.le_of_not_lt hq) hcell)) rfl rfl hd (hs _ _ _ _ _ hW hS hL hc hsl)
      · exact va_alen hx hb hK hW.2 _ 1 (wsO_some (smC_hi (Nat.le_of_not_lt hq) hcell)) rfl rfl hd (hs _ _ _ _ _ hW hS hL hc hsl)
      · exact absurd hk hq
  case newarray t =>
    dsimp only [stp] at hs
    simp only [okR, Bool.and_eq_true, Bool.or_eq_true, beq_iff_eq, decide_eq_true_eq] at ho
    obtain ⟨rfl, ht⟩ := ho
    rw [Nat.add_sub_cancel_left] at hd
    have hs0 := pI_e hs
    clear hs
    obtain ⟨n, st2, rfl, hn, hN, hm1, hm2, hs⟩ := hs0
    refine sm_newa hx hb hts hK hW hS ht hn hN (by omega) (by omega) hd (fun H1 hW1 hS1 => ?_)
    have h9 := hs _ _ ls _ _ hW1 hS1 hL (show (cells + 1) + (mc - 1) = R.cells by omega) (show (slots + n.toNatClampNeg) + (ms - n.toNatClampNeg) = R.slots by omega)
    rw [← plG_new G h]
    exact h9
  case anewarray k =>
    simp only [okR, Bool.and_eq_true, beq_iff_eq, decide_eq_true_eq] at ho
    obtain ⟨rfl, hv⟩ := ho
    rw [Nat.add_sub_cancel_left] at hd
    dsimp only [stp] at hs
    have hs0 := pI_e hs
    clear hs
    obtain ⟨n, st2, rfl, hn, hN, hm1, hm2, hs⟩ := hs0
    refine sm_newq hx hb hown (hts _ (CL_w (mCn y, k, 3) hv)) hRO.2.2.2.2.2.1 hK hW hS hn hN (by omega) (by omega) hd (fun H1 hW1 hS1 => ?_)
    have h9 := hs _ _ ls _ _ hW1 hS1 hL (show (cells + 1) + (mc - 1) = R.cells by omega) (show (slots + n.toNatClampNeg) + (ms - n.toNatClampNeg) = R.slots by omega)
    rw [← plG_new G h]
    exact h9
  case new k =>
    dsimp only [stp] at hs
    simp only [okR, Bool.and_eq_true, beq_iff_eq, decide_eq_true_eq] at ho
    obtain ⟨⟨⟨rfl, hv⟩, ha8⟩, hin⟩ := ho
    rw [Nat.add_sub_cancel_left] at hd
    obtain ⟨z, hz1, hz2⟩ := List.any_eq_true.mp hin
    simp only [Bool.and_eq_true, beq_iff_eq] at hz2
    obtain ⟨z1, z2⟩ := hz2
    obtain ⟨z0, zi, zb⟩ := z
    dsimp only at z1 z2
    subst z1
    subst z2
    obtain ⟨w1, w2, w3⟩ := in_w ⟨zi, hz1⟩
    subst w3
    obtain ⟨hm1, hm2, hs⟩ := hs
    have hcl : Cond.classLink (clsN (mCn y)) k (clsN z0) ∈ tblG := by
      have h9 := CL_w (mCn y, k, z0) hv
      dsimp only at h9
      unfold tgN at h9
      rwa [if_neg (by omega)] at h9
    refine sm_new hx hb hts ha8 hown (hts _ hcl) (hts _ w1) (hts _ w2) hK hW hS (by omega) (by omega) hd (fun H1 hW1 hS1 => ?_)
    have h9 := hs _ _ ls _ _ hW1 hS1 hL (show (cells + 1) + (mc - 1) = R.cells by omega) (show (slots + nfT z0) + (ms - nfT z0) = R.slots by omega)
    rw [← plG_new G h]
    exact h9
  case checkcast k =>
    simp only [okR, Bool.and_eq_true, beq_iff_eq, decide_eq_true_eq] at ho
    obtain ⟨rfl, hv⟩ := ho
    rw [Nat.add_sub_cancel_left] at hd
    dsimp only [stp] at hs
    have hs0 := pR_e hs
    clear hs
    obtain ⟨q, st2, rfl, hq, hs⟩ := hs0
    have hs0 := cA_e hs
    clear hs
    obtain ⟨k1, f, hcell, rfl, hs⟩ := hs0
    show W p l e R s m args below meth c H locs cells slots Z (F0 m pc ls (.ref (plG G q) :: st2.map (cv G)))
    have h9 := hs _ _ ls _ _ hW hS hL hc hsl
    have h8 : W p l e R s m args below meth c H locs cells slots Z (F0 m (pc + 3) ls (.ref (plG G q) :: st2.map (cv G))) := h9
    rw [plG_hi G hq] at h8 ⊢
    exact va_castA hx hb hown (hts _ (CL_w (mCn y, k, 90) hv)) hW.2 _ (wsO_some (smC_hi hq hcell)) (va_nm_int (hK.2 0 _ rfl).2) hd h8
  case invokestatic k =>
    simp only [okR, Bool.and_eq_true, beq_iff_eq] at ho
    obtain ⟨rfl, ho⟩ := ho
    rw [Nat.add_sub_cancel_left] at hd
    split at ho
    · simp only [Bool.and_eq_true, decide_eq_true_eq] at ho
      obtain ⟨⟨⟨o1, o2⟩, o3⟩, o4⟩ := ho
      exact W_static E hcall hW hS hL hc hsl hd o4 o2 o3 (Or.inl o1) hs
    · simp only [Bool.and_eq_true, decide_eq_true_eq] at ho
      obtain ⟨⟨⟨o1, o2⟩, o3⟩, o4⟩ := ho
      exact W_static E hcall hW hS hL hc hsl hd o4 o2 o3 (Or.inr o1) hs
    · rw [decide_eq_true_eq] at ho
      have hs0 := pI_e hs
      clear hs
      obtain ⟨x2, st', rfl, hs⟩ := hs0
      have hs0 := pI_e hs
      clear hs
      obtain ⟨x1, st2, rfl, hcat, hs⟩ := hs0
      exact va_mmax hx hb hlsz.symm hown (hts _ (MS_w (mCn y, k, 2) ho)) (hts _ tw_max.1) (hts _ tw_max.2.1) (hts _ tw_max.2.2) (by omega) (by rw [cat_map]; omega) (by omega) (by omega) hd (hs _ _ _ _ _ hW hS hL hc hsl)
    · rw [decide_eq_true_eq] at ho
      have hs0 := pI_e hs
      clear hs
      obtain ⟨x2, st', rfl, hs⟩ := hs0
      have hs0 := pI_e hs
      clear hs
      obtain ⟨x1, st2, rfl, hcat, hs⟩ := hs0
      exact va_mmin hx hb hlsz.symm hown (hts _ (MS_w (mCn y, k, 3) ho)) (hts _ tw_min.1) (hts _ tw_max.2.1) (hts _ tw_min.2) (by omega) (by rw [cat_map]; omega) (by omega) (by omega) hd (hs _ _ _ _ _ hW hS hL hc hsl)
    · rw [decide_eq_true_eq] at ho
      have hs0 := pI_e hs
      clear hs
      obtain ⟨n, s1, rfl, hs⟩ := hs0
      have hs0 := pI_e hs
      clear hs
      obtain ⟨dp, s2, rfl, hs⟩ := hs0
      have hs0 := pR_e hs
      clear hs
      obtain ⟨q2, s3, rfl, hs⟩ := hs0
      have hs0 := pI_e hs
      clear hs
      obtain ⟨sp, s4, rfl, hs⟩ := hs0
      have hs0 := pR_e hs
      clear hs
      obtain ⟨q1, s5, rfl, hq1, hq2, hcat, hs⟩ := hs0
      have hs0 := cA_e hs
      clear hs
      obtain ⟨k1, f, hc1, hs⟩ := hs0
      have hs0 := cA_e hs
      clear hs
      obtain ⟨k2, g, hc2, rfl, hk, h1, h2, h3, h4, h5, h6, hs⟩ := hs0
      show W p l e R s m args below meth c H locs cells slots Z (F0 m pc ls (.int n :: .int dp :: .ref (plG G q2) :: .int sp :: .ref (plG G q1) :: s5.map (cv G)))
      rw [plG_hi G hq1, plG_hi G hq2]
      have hnf : nativeFrameWords "java/lang/System" "arraycopy" 5 = 7 := by decide +kernel
      exact sm_copy hx hb hlsz.symm hown (hts _ (MS_w (mCn y, k, 4) ho)) (hts _ tw_copy.1) (hts _ tw_copy.2.1) (hts _ tw_copy.2.2) hK hW hS hk (smC_hi hq1 hc1) (smC_hi hq2 hc2) h1 h2 h3 h4 h5 h6 (by omega) (by rw [cat_map, hnf]; omega) hd (fun H1 locs1 hW1 hS1 => hs _ _ _ _ _ hW1 hS1 hL hc hsl)
    · cases ho
  case invokevirtual k =>
    simp only [okR, Bool.and_eq_true, beq_iff_eq] at ho
    obtain ⟨rfl, ho⟩ := ho
    rw [Nat.add_sub_cancel_left] at hd
    split at ho
    · simp only [Bool.and_eq_true, decide_eq_true_eq] at ho
      obtain ⟨⟨⟨o1, o2⟩, o3⟩, o4⟩ := ho
      exact W_virtual E hcall hW hS hL hc hsl hd o4 o2 o3 o1 (vcn o4 o3) hs
    · rw [decide_eq_true_eq] at ho
      have hs0 := pR_e hs
      clear hs
      obtain ⟨q, st2, rfl, hq, hcat, hs⟩ := hs0
      have hs0 := cA_e hs
      clear hs
      obtain ⟨k1, f, hcell, rfl, hm1, hm2, hs⟩ := hs0
      show W p l e R s m args below meth c H locs cells slots Z (F0 m pc ls (.ref (plG G q) :: st2.map (cv G)))
      rw [plG_hi G hq]
      refine sm_clone hx hb hlsz.symm hown (hts _ (MS_w (mCn y, k, 5) ho)) hts hRO.2.2.2.2.2.2 hK hW hS (smC_hi hq hcell) (by omega) (by rw [cat_map]; omega) (by omega) (by omega) hd (fun H1 hW1 hS1 => ?_)
      have h9 := hs _ _ ls _ _ hW1 hS1 hL (show (cells + 1) + (mc - 1) = R.cells by omega) (show (slots + f.length) + (ms - f.length) = R.slots by omega)
      rw [← plG_new G h]
      exact h9
    · cases ho
  case invokespecial k =>
    simp only [okR, Bool.and_eq_true, beq_iff_eq] at ho
    obtain ⟨rfl, ho⟩ := ho
    rw [Nat.add_sub_cancel_left] at hd
    split at ho
    · simp only [Bool.and_eq_true, decide_eq_true_eq] at ho
      obtain ⟨⟨⟨o1, o2⟩, o3⟩, o4⟩ := ho
      exact W_special E hcall hW hS hL hc hsl hd o4 o2 o3 (Or.inl o1) hs
    · simp only [Bool.and_eq_true, decide_eq_true_eq] at ho
      obtain ⟨⟨⟨o1, o2⟩, o3⟩, o4⟩ := ho
      exact W_special E hcall hW hS hL hc hsl hd o4 o2 o3 (Or.inr o1) hs
    · rw [decide_eq_true_eq] at ho
      have hs0 := pR_e hs
      clear hs
      obtain ⟨q, st2, rfl, hcat, hs⟩ := hs0
      refine W.objInit hx hb hown (hts _ (MS_w (mCn y, k, 12) ho)) (hts _ tw_obj.1) (hts _ tw_obj.2) (a := plG G q) (rest := st2.map (cv G)) rfl hlsz rfl hd (by omega) (by rw [cat_map]; show 2 * 0 + _ + 12 ≤ _; omega) ?_
      exact hs _ _ _ _ _ hW hS hL hc hsl
    · cases ho
  case ireturn  =>
    simp only [okR, Bool.and_eq_true, beq_iff_eq, decide_eq_true_eq] at ho
    subst ho
    rw [Nat.add_sub_cancel_left] at hd
    dsimp only [stp] at hs
    have hs0 := pI_e hs
    clear hs
    obtain ⟨x, st2, rfl, rfl, hs⟩ := hs0
    split at hs
    · exact hret.1 x h H locs cells slots pc ls (Or.inl (by assumption)) hs hW hS (by omega) (by omega) hd
    · exact hret.1 x h H locs cells slots pc ls (Or.inr (Or.inl ⟨by assumption, hs.1⟩)) hs.2 hW hS (by omega) (by omega) hd
    · exact hret.1 x h H locs cells slots pc ls (Or.inr (Or.inr ⟨by assumption, hs.1⟩)) hs.2 hW hS (by omega) (by omega) hd
    · exact hs.elim
  case areturn =>
    simp only [okR, Bool.and_eq_true, beq_iff_eq] at ho
    obtain ⟨rfl, ho⟩ := ho
    rw [Nat.add_sub_cancel_left] at hd
    have hs0 := pV_e hs
    clear hs
    obtain ⟨u, st2, rfl, hu, rfl, hni, hs⟩ := hs0
    refine hret.2.1 u h H locs cells slots pc ls ?_ ?_ hs hW hS (by omega) (by omega) hd
    · split at ho
      · exact Or.inl ⟨_, by assumption⟩
      · exact Or.inr ⟨_, by assumption⟩
      · cases ho
    · cases u with
      | int z => exact absurd rfl (hni z)
      | null => exact Or.inl rfl
      | ref a => exact Or.inr ⟨a, rfl⟩
      | _ => cases hu
  case return_  =>
    simp only [okR, Bool.and_eq_true, beq_iff_eq, decide_eq_true_eq] at ho
    obtain ⟨rfl, hv⟩ := ho
    rw [Nat.add_sub_cancel_left] at hd
    dsimp only [stp] at hs
    obtain ⟨rfl, hs⟩ := hs
    exact hret.2.2 h H locs cells slots pc ls hv hs hW hS (by omega) (by omega) hd
  all_goals exact False.elim hs
end SOUND
end
section
/-! A RUN OF THE SMALL MACHINE IS A CONTRACT -/
set_option maxHeartbeats 1000000 in
theorem ret_met {p : Program} {l : Launch} {e : Env} {R : Room} {s : State} {m : MethodId} {args : Array Value} {below : List Frame} {meth : Method} {c : Code} {G : AG} {y mc ms : Nat} {Q : QT} (hx : p.tables.exec = Jvm.exec) (hb : c.code = mCd y) (hr : meth.sig.returnType = mRt y) (hlocks : meth.locks = false) (hc : R.cells = mc) (hs : R.slots = ms) :
    RetOk p l e R s m args below meth c G y (MQ below (QcM G Q) args s mc ms (AbA G)) Q := by
  subst hc
  subst hs
  refine ⟨fun x h H locs cells slots pc ls hty hq hW hS hc1 hs1 hd => ?_, fun v h H locs cells slots pc ls hty hv hq hW hS hc1 hs1 hd => ?_, fun h H locs cells slots pc ls hty hq hW hS hc1 hs1 hd => ?_⟩
  · refine W.widen (k := R.cells) (n := R.slots) hc1 hs1 ?_
    obtain ⟨ty, h1, h2⟩ : ∃ ty, mRt y = some ty ∧ narrow ty (.int x) = .int x := by
      rcases hty with h1 | ⟨h1, h2⟩ | ⟨h1, h2⟩
      · exact ⟨_, h1, rfl⟩
      · exact ⟨_, h1, nar_b h2⟩
      · refine ⟨_, h1, ?_⟩
        show Value.int x.toInt8.toInt32 = .int x
        congr 1
        obtain ⟨h3, h4⟩ := h2
        have h5 := Int32.le_iff_toInt_le.mp h3
        have h6 := Int32.le_iff_toInt_le.mp h4
        apply Int32.toInt.inj
        rw [Int8.toInt_toInt32, Int32.toInt_toInt8]
        have e1 : (-128 : Int32).toInt = -128 := by decide
        have e2 : (127 : Int32).toInt = 127 := by decide
        rw [e1] at h5
        rw [e2] at h6
        exact Int.bmod_eq_of_le (by omega) (by omega)
    exact W.zret hx hb (by rw [hr, h1]) h2 (fun t ht hWm => ⟨⟨some (.int x), h, rfl, hq, by rw [ht]; exact hW⟩, hS.F ht⟩) hS.2.2 hd hlocks
  · refine W.widen (k := R.cells) (n := R.slots) hc1 hs1 ?_
    obtain ⟨ty, h1, h2⟩ : ∃ ty, mRt y = some ty ∧ ((∃ n, ty = .object n) ∨ ∃ t, ty = .array t) := by
      rcases hty with ⟨n, h1⟩ | ⟨t, h1⟩
      · exact ⟨_, h1, Or.inl ⟨n, rfl⟩⟩
      · exact ⟨_, h1, Or.inr ⟨t, rfl⟩⟩
    have hv' : cv G v = .null ∨ ∃ a, cv G v = .ref a := by
      rcases hv with rfl | ⟨a, rfl⟩
      · exact Or.inl rfl
      · exact Or.inr ⟨_, rfl⟩
    exact W.aret hx hb (by rw [hr, h1]) h2 hv' (fun t ht hWm => ⟨⟨some v, h, rfl, hq, by rw [ht]; exact hW⟩, hS.F ht⟩) hS.2.2 hd hlocks
  · refine W.widen (k := R.cells) (n := R.slots) hc1 hs1 ?_
    exact W.vret hx hb (by rw [hr, hty]) (fun t ht hWm => ⟨⟨none, h, rfl, hq, by rw [ht]; exact hW⟩, hS.F ht⟩) hS.2.2 hd hlocks
set_option maxHeartbeats 1000000 in
theorem WP_met (l : Launch) (G : AG) (xs : List Int32) : ∀ d, CallOk l G xs d (WP xs d) := by
  intro d
  induction d with
  | zero => intro a mc ms as h Q ha q; exact q.elim
  | succ d ih =>
    intro a mc ms as h Q ha q
    obtain ⟨hlen, hgw⟩ := q
    obtain ⟨o1, o2, o3, o4, o5, o6, o7, o8, o9, o10, o11⟩ := okM_e ha
    refine Met.ofW (cc := mCd a) (maxL := mMx a) (ret := mRt a) (ws' := tblG) o11 (by unfold wsM; rfl) ?_
    intro p e s m args below meth c s₁ B hml hv
    obtain ⟨rfl, hW0, hAm⟩ := hv
    have hts : ∀ w ∈ tblG, w.before ((as.map (cv G)).toArray) s = true := fun w hw => atoms_spec (ws := wsM a) B.pre w (List.mem_cons_of_mem _ hw)
    have hown : s.vm.findClass (clsN (mCn a)) = some m.cls := by
      rw [← o5]
      exact findClass_of_methodNamed B.named
    have E : EnvM p (headSpec (wsM a) (rmM (d + 1) mc ms)).room s m ((as.map (cv G)).toArray) meth c G xs a d :=
      ⟨B.exec, B.bytes, hml, hown, hts, hAm, fun q => by rw [(name_of_methodNamed B.named B.method).1]; exact (o8 q).1, by rw [hW0.1]; exact Nat.le_add_right _ _, Nat.le_refl _, Nat.le_refl _⟩
    rw [lg_entry_eq]
    exact hgw (KW p l e (headSpec (wsM a) (rmM (d + 1) mc ms)).room s m ((as.map (cv G)).toArray) below meth c G a (MQ below (QcM G Q) ((as.map (cv G)).toArray) s mc ms (AbA G)))
      (fun pc L st h mc1 ms1 r hr hs => stp_W E ih (ret_met B.exec B.bytes B.returns B.notSynchronized rfl rfl) hr hs)
      [] s.heap _ 0 0 hW0 va_S.rf (lvO_entry G hlen) (Nat.zero_add _) (Nat.zero_add _)
end
