/-! ONE INSTRUCTION OF THE SMALL MACHINE IS ONE OF THE MACHINE -/
noncomputable def wsM (y : Nat) : List Cond := .code (mNm y) (mCd y) (mMx y) (mRt y) :: tblG
def rmM (d mc ms : Nat) : Room := { frames := d, cells := mc, slots := ms, locals := 64 * d }
def PcM (G : AG) (xs : List Int32) (args : List Value) (h : AH) : Array Value → State → Prop := va_Pc (args.map (cv G)) (fun U => WdO G h U.heap ∧ Am G xs U)
def QcM (G : AG) (Q : QT) : Array Value → State → Outcome → State → Prop := fun _ st oc t => (∃ r h', oc = .returned (r.map (cv G)) ∧ Q r h' ∧ WdO G h' t.heap) ∧ va_F (AbA G) st t
theorem PcM_blind {G : AG} {xs : List Int32} {args : List Value} {h : AH} : FrameBlind (PcM G xs args h) := by
  rintro a U g mk ⟨h1, h2, h3⟩
  exact ⟨h1, h2, h3.same rfl rfl⟩
theorem tblG_good : GoodIn tblG tblG := fun w hw => ⟨hw, good_of_word (List.mem_filter.mp hw).2⟩
theorem wsM_good {y : Nat} (h : y < 190) : GoodIn tblG (wsM y) := fun w hw => by
  rcases List.mem_cons.mp hw with rfl | hw
  · exact tblG_good _ (cw_in h)
  · exact tblG_good w hw
theorem goodIn_c {big : List Cond} {w : Cond} {ws : List Cond} (h1 : w ∈ big ∧ goodWord w = true) (h2 : GoodIn big ws) : GoodIn big (w :: ws) := fun x hx => by
  rcases List.mem_cons.mp hx with rfl | hx
  · exact ⟨h1.1, good_of_word h1.2⟩
  · exact h2 x hx
theorem tblG_w {w : Cond} (h : w ∈ tblG) : w ∈ tblG ∧ goodWord w = true := ⟨h, (List.mem_filter.mp h).2⟩
/-- what okM says -/
theorem okM_e {y : Nat} (h : y < 190) : (mFl y = 0 → Cond.static (mNm y) ∈ tblG) ∧ (mFl y ≠ 0 → Cond.instanceMethod (mNm y) ∈ tblG) ∧ (mFl y = 1 → Cond.selects (mNm y).cls (mNm y) (mNm y) ∈ tblG) ∧ Cond.initialized (mNm y).cls ∈ tblG ∧ (mNm y).cls = clsN (mCn y) ∧ (parseMethodDescriptor (mNm y).desc).map (fun d => d.parameters.length) = some (mNa y) ∧ mMx y ≤ 45 ∧ (mFl y = 2 → (mNm y).name = "<init>" ∧ mRt y = none) ∧ (mNm y).cls ≠ "java/lang/invoke/MethodHandle" ∧ (mNm y).cls ≠ "java/lang/invoke/VarHandle" ∧ plainName (mNm y).cls = true := by
  have h1 := okM_all h
  unfold okM at h1
  simp only [Bool.and_eq_true, decide_eq_true_eq] at h1
  obtain ⟨⟨⟨⟨⟨⟨⟨⟨⟨a1, a2⟩, a3⟩, a4⟩, a5⟩, a6⟩, a7⟩, a8⟩, a9⟩, a10⟩ := h1
  refine ⟨fun q => ?_, fun q => ?_, fun q => ?_, inT_e a3, a4, a5, a6, fun q => ?_, a8, a9, a10⟩
  · rw [if_pos q] at a1
    exact inT_e a1
  · rw [if_neg q] at a1
    exact inT_e a1
  · rw [if_pos q] at a2
    exact inT_e a2
  · rw [if_pos q] at a7
    simpa using a7
theorem roL_inr {xs : List Int32} {p k : Nat} {fs : List Value} (h : (roL xs)[p]? = some (.inr (k, fs))) : k = 60 := by
  have h1 := List.mem_of_getElem? h
  simp only [roL, List.mem_cons, List.not_mem_nil, or_false, Sum.inr.injEq, Prod.mk.injEq, reduceCtorEq, false_or] at h1
  omega
theorem roL_k {xs : List Int32} {p k : Nat} {f : List Int32} (h : (roL xs)[p]? = some (.inl (k, f))) : k = 0 ∨ k = 3 := by
  have h1 := List.mem_of_getElem? h
  simp only [roL, List.mem_cons, List.not_mem_nil, or_false, Sum.inl.injEq, Prod.mk.injEq, reduceCtorEq, false_or] at h1
  omega
section STP
variable {p : Program} {l : Launch} {e : Env} {R : Room} {s : State} {m : MethodId} {args : Array Value} {below : List Frame} {meth : Method} {c : Code} {G : AG} {xs : List Int32} {y d : Nat} {Z : State → Prop} {call : CT} {Q : QT}
def KW (p : Program) (l : Launch) (e : Env) (R : Room) (s : State) (m : MethodId) (args : Array Value) (below : List Frame) (meth : Method) (c : Code) (G : AG) (y : Nat) (Z : State → Prop) : KT := fun pc L st h mc ms =>
  ∀ (locs : List Loc) (H : Heap) (ls : Array Slot) (cells slots : Nat), WdO G h H → va_S (AbA G) s.heap H locs → lvO G ls (mMx y) L → cells + mc = R.cells → slots + ms = R.slots → W p l e R s m args below meth c H locs cells slots Z (F0 m pc ls (st.map (cv G)))
def EnvM (p : Program) (R : Room) (s : State) (m : MethodId) (args : Array Value) (meth : Method) (c : Code) (G : AG) (xs : List Int32) (y d : Nat) : Prop :=
  p.tables.exec = Jvm.exec ∧ c.code = mCd y ∧ c.maxLocals = mMx y ∧ s.vm.findClass (clsN (mCn y)) = some m.cls ∧ (∀ w ∈ tblG, w.before args s = true) ∧ Am G xs s ∧ (mFl y = 2 → meth.name = "<init>") ∧ G.2.2.1 ≤ s.heap.size ∧ d + 1 ≤ R.frames ∧ 64 * (d + 1) ≤ R.locals
/-- behind a call -/
theorem va_callM {Q' : QT} {H : Heap} {locs : List Loc} {cells slots mc ms pc : Nat} {ls : Array Slot} {rest st0 : List Value} {a : Array Value} (hr : va_Run p l e R s m args below meth c H locs cells slots mc ms (F0 m pc ls st0) rest (QcM G Q' a) (AbA G)) (hS : va_S (AbA G) s.heap H locs)
    (kk : ∀ (r : Option Value) (h' : AH) (H1 : Heap) (locs1 : List Loc), Q' r h' → WdO G h' H1 → va_S (AbA G) s.heap H1 locs1 → W p l e R s m args below meth c H1 locs1 (cells + mc) (slots + ms) Z (F0 m (pc + 3) ls ((r.map (cv G)).toList ++ rest))) : W p l e R s m args below meth c H locs cells slots Z (F0 m pc ls st0) := by
  intro T hT X
  obtain ⟨v, st₀, t, T', L, h0, X', hL, e1, e2, ⟨⟨r, h', hv, hq, hw⟩, hz, hk⟩, st⟩ := hr T hT X
  cases hv
  rw [h0] at hz hk
  obtain ⟨t2, a1, b1⟩ := kk r h' T'.heap (locs ++ L) hq (by rw [e1]; exact hw)
    ⟨Nat.le_trans hS.1 (by rw [e1]; exact hz), fun q h1 h2 => by rw [e1, hk q (Nat.lt_of_lt_of_le h1 hS.1) h2]; exact hS.2.1 q h1 h2, fun q hq => by
      rcases List.mem_append.mp hq with h | h
      · exact hS.2.2 q h
      · exact hL q h⟩ T' rfl X'
  exact ⟨t2, st t2 a1, b1⟩
theorem preS_M {h : AH} {H : Heap} {locs : List Loc} {as : List Value} (hAm : Am G xs s) (hW : WdO G h H) (hS : va_S (AbA G) s.heap H locs) : PreS s H (PcM G xs as h) (as.map (cv G)) :=
  ⟨PcM_blind, fun U hU hWm => ⟨rfl, by rw [hU]; exact hW, hAm.warm hWm (fun a h1 h2 => by rw [hU]; exact hS.2.1 a h1 h2)⟩⟩
/-- a call of the small machine is one of the machine's -/
def CallOk (l : Launch) (G : AG) (xs : List Int32) (d : Nat) (call : CT) : Prop := ∀ (a mc ms : Nat) (as : List Value) (h : AH) (Q : QT), a < 190 → call a mc ms as h Q → Met l (mNm a) (wsM a) (rmM d mc ms) (PcM G xs as h) (QcM G Q) mc ms (AbA G)
theorem mapr_l (r : Option Value) (st : List Value) : (r.map (cv G)).toList ++ st.map (cv G) = (r.toList ++ st).map (cv G) := by cases r <;> rfl
theorem td_map (st : List Value) (b : Nat) : st.map (cv G) = (((st.take b).reverse).map (cv G)).reverse ++ (st.drop b).map (cv G) := by
  rw [← List.map_reverse, List.reverse_reverse, ← List.map_append, List.take_append_drop]
theorem td_len {st : List Value} {b : Nat} (h : b ≤ st.length) : (((st.take b).reverse).map (cv G)).length = b := by
  rw [List.length_map, List.length_reverse, List.length_take]
  omega
set_option maxHeartbeats 1000000 in
theorem W_static (E : EnvM p R s m args meth c G xs y d) (hcall : CallOk l G xs d call) {pc k a b : Nat} {L : LoS} {st : List Value} {h : AH} {mc ms : Nat} {locs : List Loc} {H : Heap} {ls : Array Slot} {cells slots : Nat} (hW : WdO G h H) (hS : va_S (AbA G) s.heap H locs) (hL : lvO G ls (mMx y) L) (hc : cells + mc = R.cells) (hsl : slots + ms = R.slots)
    (hd : decode (mCd y) pc = .ok (.invokestatic k, 3)) (ha : a < 190) (hb' : b = mNa a) (hfl : mFl a = 0) (hk : (mCn y, k, a, 0) ∈ MLl ∨ (mCn y, k, a, 1) ∈ NLl)
    (hs : b ≤ st.length ∧ cal call (fun s' h mc ms => KW p l e R s m args below meth c G y Z (pc + 3) L s' h mc ms) a (st.take b).reverse (st.drop b) h mc ms) : W p l e R s m args below meth c H locs cells slots Z (F0 m pc ls (st.map (cv G))) := by
  obtain ⟨hx, hb, hml, hown, hts, hAm, hin2, hbs, hf, hlo⟩ := E
  obtain ⟨hlen, hcat, mc', ms', g1, g2, hq⟩ := hs
  obtain ⟨o1, o2, o3, o4, o5, o6, o7, o8, o9, o10, o11⟩ := okM_e ha
  obtain ⟨Q', hQ'⟩ : ∃ Q' : QT, Q' = (fun r h' => KW p l e R s m args below meth c G y Z (pc + 3) L (r.toList ++ st.drop b) h' (mc - mc') (ms - ms')) := ⟨_, rfl⟩
  have hM : Met l (mNm a) (wsM a) (rmM d mc' ms') (PcM G xs (st.take b).reverse h) (QcM G Q') mc' ms' (AbA G) := by
    rw [hQ']
    exact hcall a mc' ms' _ h _ ha hq
  have hR : (rmM d mc' ms').frames + 1 ≤ R.frames ∧ 8 + (mMx a + 11) + (rmM d mc' ms').locals ≤ R.locals := by
    constructor
    · exact hf
    · show 8 + (mMx a + 11) + 64 * d ≤ R.locals
      omega
  have run : va_Run p l e R s m args below meth c H locs cells slots mc' ms' (F0 m pc ls (st.map (cv G))) ((st.drop b).map (cv G)) (QcM G Q' (((st.take b).reverse).map (cv G)).toArray) (AbA G) := by
    rcases hk with hk | hk
    · exact va_runS ⟨hx, hb, hml, hown, hts⟩ hM (va_cwS b hts (goodIn_c (tblG_w (ML_w _ hk)) (goodIn_c (tblG_w (o1 hfl)) (goodIn_c (tblG_w o4) (wsM_good ha)))) rfl rfl rfl ⟨o9, o10, by rw [o6, hb']⟩ hR) (preS_M hAm hW hS) rfl (td_len hlen) hL.2.1 (td_map st b) (lv_room (by rw [cat_map]; exact hcat)) hd (by constructor <;> omega)
    · have hnest : va_Nw (.methodLinkNest (clsN (mCn y)) k (mNm a) "LooksServed") s := hAm.2.2.2.2.2.1 (mCn y, k, a, 1) hk
      have cw : va_CN R s args (clsN (mCn y)) k (mNm a) "LooksServed" (mCd a) (mMx a) (mRt a) (wsM a) (rmM d mc' ms') mc' ms' b := va_cnB (ws' := tblG) b hts (wsM_good ha) (by unfold wsM; rfl) (by unfold rmM; rfl) (by unfold rmM; rfl) hnest (hts _ o4) ⟨o9, o10, by rw [o6, hb']⟩ hR
      exact va_runSN (own := clsN (mCn y)) (host := "LooksServed") (bytes := mCd a) (maxL := mMx a) (ret := mRt a) ⟨hx, hb, hml, hown, hts⟩ hM ⟨cw, hts _ (o1 hfl), trivial⟩ (preS_M hAm hW hS) rfl (td_len hlen) hL.2.1 (td_map st b) (lv_room (by rw [cat_map]; exact hcat)) hd (by constructor <;> omega)
  refine va_callM run hS (fun r h' H1 locs1 hq' hW1 hS1 => ?_)
  rw [mapr_l]
  rw [hQ'] at hq'
  exact hq' locs1 H1 ls _ _ hW1 hS1 hL (by omega) (by omega)
set_option maxHeartbeats 1000000 in
theorem W_virtual (E : EnvM p R s m args meth c G xs y d) (hcall : CallOk l G xs d call) {pc k a b : Nat} {L : LoS} {st : List Value} {h : AH} {mc ms : Nat} {locs : List Loc} {H : Heap} {ls : Array Slot} {cells slots : Nat} (hW : WdO G h H) (hS : va_S (AbA G) s.heap H locs) (hL : lvO G ls (mMx y) L) (hc : cells + mc = R.cells) (hsl : slots + ms = R.slots)
    (hd : decode (mCd y) pc = .ok (.invokevirtual k, 3)) (ha : a < 190) (hb' : b = mNa a) (hfl : mFl a = 1) (hk : (mCn y, k, a, 20) ∈ MLl) (hcn : mCn a < 8 ∨ mCn a = 60)
    (hs : b ≤ st.length ∧ pR (st.drop b) (fun q s' => cO xs h q (mCn a) (fun _ => cal call (fun s' h mc ms => KW p l e R s m args below meth c G y Z (pc + 3) L s' h mc ms) a (.ref q :: (st.take b).reverse) s' h mc ms))) : W p l e R s m args below meth c H locs cells slots Z (F0 m pc ls (st.map (cv G))) := by
  obtain ⟨hx, hb, hml, hown, hts, hAm, hin2, hbs, hf, hlo⟩ := E
  obtain ⟨hlen, hs⟩ := hs
  obtain ⟨q, s', hst, hs⟩ := pR_e hs
  obtain ⟨fs, hcell, hcat, mc', ms', g1, g2, hq⟩ := cO_e hs
  obtain ⟨o1, o2, o3, o4, o5, o6, o7, o8, o9, o10, o11⟩ := okM_e ha
  obtain ⟨Q', hQ'⟩ : ∃ Q' : QT, Q' = (fun r h' => KW p l e R s m args below meth c G y Z (pc + 3) L (r.toList ++ s') h' (mc - mc') (ms - ms')) := ⟨_, rfl⟩
  have hM : Met l (mNm a) (wsM a) (rmM d mc' ms') (PcM G xs (.ref q :: (st.take b).reverse) h) (QcM G Q') mc' ms' (AbA G) := by
    rw [hQ']
    exact hcall a mc' ms' _ h _ ha hq
  have hR : (rmM d mc' ms').frames + 1 ≤ R.frames ∧ 8 + (mMx a + 11) + (rmM d mc' ms').locals ≤ R.locals := by
    constructor
    · exact hf
    · show 8 + (mMx a + 11) + 64 * d ≤ R.locals
      omega
  have hrecv : ∃ cellB : Cell, H[plG G q]? = some cellB ∧ cellB.vm.isStatics = false ∧ s.vm.findClass (mNm a).cls = some cellB.cls := by
    rw [o5]
    unfold smC at hcell
    split at hcell
    · rename_i hlt
      have h60 := roL_inr hcell
      rw [h60] at hcell ⊢
      obtain ⟨cell, w1, w2, w3, -⟩ := ((hAm.2.2.1 q fs hcell).1).kept hS.2.1
      exact ⟨cell, by unfold plG; rw [if_pos hlt]; exact w1, w2, w3⟩
    · rename_i hlt
      have hl := wsO_some (G := G) hcell
      rw [ce_obj G fs (by omega)] at hl
      obtain ⟨r, h1, -⟩ := hW.2 _ _ hl
      have h8 : mCn a < 8 := (List.getElem?_eq_some_iff.mp h1).1
      rw [plG_hi G (by omega)]
      exact va_recv hAm.1 hW.2 (vw_at h8) hl
  have hstk : st.map (cv G) = (((st.take b).reverse).map (cv G)).reverse ++ .ref (plG G q) :: s'.map (cv G) := by
    rw [td_map (G := G) st b, hst]
    rfl
  have run : va_Run p l e R s m args below meth c H locs cells slots mc' ms' (F0 m pc ls (st.map (cv G))) (s'.map (cv G)) (QcM G Q' (Value.ref (plG G q) :: ((st.take b).reverse).map (cv G)).toArray) (AbA G) :=
    va_runV (C := (mNm a).cls) ⟨hx, hb, hml, hown, hts⟩ hM (cwV b hts (goodIn_c (tblG_w (ML_w _ hk)) (goodIn_c (tblG_w (o2 (by omega))) (goodIn_c (tblG_w (o3 hfl)) (goodIn_c (tblG_w o4) (wsM_good ha))))) rfl rfl rfl ⟨rfl, o9, o10, by rw [o6, hb']⟩ hR) ⟨PcM_blind, hrecv, (preS_M (as := .ref q :: (st.take b).reverse) hAm hW hS).2⟩ rfl (td_len hlen) hL.2.1 hstk (lv_room (by rw [cat_map]; exact hcat)) hd (by constructor <;> omega)
  refine va_callM run hS (fun r h' H1 locs1 hq' hW1 hS1 => ?_)
  rw [mapr_l]
  rw [hQ'] at hq'
  exact hq' locs1 H1 ls _ _ hW1 hS1 hL (by omega) (by omega)
set_option maxHeartbeats 1000000 in
theorem W_special (E : EnvM p R s m args meth c G xs y d) (hcall : CallOk l G xs d call) {pc k a b : Nat} {L : LoS} {st : List Value} {h : AH} {mc ms : Nat} {locs : List Loc} {H : Heap} {ls : Array Slot} {cells slots : Nat} (hW : WdO G h H) (hS : va_S (AbA G) s.heap H locs) (hL : lvO G ls (mMx y) L) (hc : cells + mc = R.cells) (hsl : slots + ms = R.slots)
    (hd : decode (mCd y) pc = .ok (.invokespecial k, 3)) (ha : a < 190) (hb' : b = mNa a) (hfl : mFl a = 2) (hk : (mCn y, k, a, 10) ∈ MLl ∨ (mCn y, k, a, 11) ∈ NLl)
    (hs : b ≤ st.length ∧ pR (st.drop b) (fun q s' => 32 ≤ q ∧ cal call (fun s' h mc ms => KW p l e R s m args below meth c G y Z (pc + 3) L s' h mc ms) a (.ref q :: (st.take b).reverse) s' h mc ms)) : W p l e R s m args below meth c H locs cells slots Z (F0 m pc ls (st.map (cv G))) := by
  obtain ⟨hx, hb, hml, hown, hts, hAm, hin2, hbs, hf, hlo⟩ := E
  obtain ⟨hlen, hs⟩ := hs
  obtain ⟨q, s', hst, -, hcat, mc', ms', g1, g2, hq⟩ := pR_e hs
  obtain ⟨o1, o2, o3, o4, o5, o6, o7, o8, o9, o10, o11⟩ := okM_e ha
  obtain ⟨Q', hQ'⟩ : ∃ Q' : QT, Q' = (fun r h' => KW p l e R s m args below meth c G y Z (pc + 3) L (r.toList ++ s') h' (mc - mc') (ms - ms')) := ⟨_, rfl⟩
  have hM : Met l (mNm a) (wsM a) (rmM d mc' ms') (PcM G xs (.ref q :: (st.take b).reverse) h) (QcM G Q') mc' ms' (AbA G) := by
    rw [hQ']
    exact hcall a mc' ms' _ h _ ha hq
  have hR : (rmM d mc' ms').frames + 1 ≤ R.frames ∧ 8 + (mMx a + 11) + (rmM d mc' ms').locals ≤ R.locals := by
    constructor
    · exact hf
    · show 8 + (mMx a + 11) + 64 * d ≤ R.locals
      omega
  have hstk : st.map (cv G) = (((st.take b).reverse).map (cv G)).reverse ++ .ref (plG G q) :: s'.map (cv G) := by
    rw [td_map (G := G) st b, hst]
    rfl
  obtain ⟨hnm, hrt⟩ := o8 hfl
  have hws : wsM a = .code (mNm a) (mCd a) (mMx a) none :: tblG := by
    unfold wsM
    rw [hrt]
  have hpre : PreS s H (PcM G xs (.ref q :: (st.take b).reverse) h) (.ref (plG G q) :: ((st.take b).reverse).map (cv G)) := preS_M (as := .ref q :: (st.take b).reverse) hAm hW hS
  have run : va_Run p l e R s m args below meth c H locs cells slots mc' ms' (F0 m pc ls (st.map (cv G))) (s'.map (cv G)) (QcM G Q' (Value.ref (plG G q) :: ((st.take b).reverse).map (cv G)).toArray) (AbA G) := by
    rcases hk with hk | hk
    · exact va_runI ⟨hx, hb, hml, hown, hts⟩ hM (cwI b hts (wsM_good ha) hws rfl rfl (hts _ o4) (hts _ (ML_w _ hk)) (hts _ (o2 (by omega))) hnm ⟨o9, o10, by rw [o6, hb']⟩ hR) hpre rfl (td_len hlen) hL.2.1 hstk (lv_room (by rw [cat_map]; exact hcat)) hd (by constructor <;> omega)
    · have hnest : va_Nw (.methodLinkNest (clsN (mCn y)) k (mNm a) "LooksServed") s := hAm.2.2.2.2.2.1 (mCn y, k, a, 11) hk
      have cw : va_CN R s args (clsN (mCn y)) k (mNm a) "LooksServed" (mCd a) (mMx a) none (wsM a) (rmM d mc' ms') mc' ms' b := va_cnB (ws' := tblG) b hts (wsM_good ha) hws (by unfold rmM; rfl) (by unfold rmM; rfl) hnest (hts _ o4) ⟨o9, o10, by rw [o6, hb']⟩ hR
      exact va_runIN (own := clsN (mCn y)) (host := "LooksServed") (bytes := mCd a) (maxL := mMx a) ⟨hx, hb, hml, hown, hts⟩ hM ⟨cw, hnm, hts _ (o2 (by omega))⟩ hpre rfl (td_len hlen) hL.2.1 hstk (lv_room (by rw [cat_map]; exact hcat)) hd (by constructor <;> omega)
  refine va_callM run hS (fun r h' H1 locs1 hq' hW1 hS1 => ?_)
  rw [mapr_l]
  rw [hQ'] at hq'
  exact hq' locs1 H1 ls _ _ hW1 hS1 hL (by omega) (by omega)
end STP
